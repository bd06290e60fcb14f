/** Promise 4: what is TWICE, and that the settings need it. */
public final class SendTwiceTest {
    public static void main(String[] args) {
        firstHasNoEffect();
        thirdIsFirstAgain();
        whatComesBetween();
        whatIsNotBetween();
        oneAddressAndAnother();
        specials();
        twoBuses();
        Check.finish();
    }

    private static LampBus lamp() {
        LampBus bus = Check.busOf(2);
        bus.send(0xA3, 5);
        return bus;
    }

    private static void firstHasNoEffect() {
        for (int command = 0x20; command <= 0x80; command++) {
            LampBus bus = Check.busOf(1);
            Check.set(bus, 0xFF, 0x2E, 9);
            Check.sendTwice(bus, 0xFF, 0x63);
            bus.send(0xFF, 0);
            bus.send(0xA3, 5);
            int[] before = all(bus);
            Check.due("answer to " + command, bus.send(0xFF, command), LampBus.NONE);
            same("one frame " + command, before, all(bus));
            bus.tick(1);
            Check.due("answer to " + command + " behind a tick", bus.send(0xFF, command), LampBus.NONE);
            same("one frame " + command + " behind a tick", before, all(bus));
        }
    }

    private static int[] all(LampBus bus) {
        int[] values = new int[32];
        for (int what = 0; what < 32; what++) {
            values[what] = bus.told(0, what);
        }
        return values;
    }

    private static void same(String what, int[] before, int[] now) {
        for (int i = 0; i < before.length; i++) {
            Check.due(what + ": told " + i, now[i], before[i]);
        }
    }

    private static void thirdIsFirstAgain() {
        LampBus bus = Check.busOf(1);
        bus.send(0xFF, 0x21);
        bus.send(0xFF, 0x21);
        Check.due("DTR behind two", bus.told(0, 10), 254);
        bus.power();
        Check.due("DTR behind power", bus.told(0, 10), 0);
        bus.send(0xFF, 0x21);
        Check.due("DTR behind the third", bus.told(0, 10), 0);
        bus.send(0xFF, 0x21);
        Check.due("DTR behind the fourth", bus.told(0, 10), 254);
    }

    private static void whatComesBetween() {
        LampBus bus = lamp();
        bus.send(0xFF, 0x2E);
        bus.tick(1);
        bus.send(0xFF, 0x2E);
        Check.due("FADE with a tick between", bus.told(0, 5), 0);
        bus.send(0xFF, 0xA0);
        bus.send(0xFF, 0x2E);
        Check.due("FADE with a query between", bus.told(0, 5), 0);
        bus.send(0x01, 0xA0);
        bus.send(0xFF, 0x2E);
        Check.due("FADE with a frame to none between", bus.told(0, 5), 0);
        bus.send(0xFC, 0x2E);
        bus.send(0xFF, 0x2E);
        Check.due("FADE with a frame without meaning between", bus.told(0, 5), 0);
        bus.send(0xFF, 0x2F);
        bus.send(0xFF, 0x2E);
        Check.due("FADE with another setting between", bus.told(0, 5), 0);
        bus.commission(0);
        bus.send(0xFF, 0x2E);
        Check.due("FADE with a commission between", bus.told(0, 5), 0);
        bus.send(0xFF, 0x2E);
        Check.due("FADE with nothing between", bus.told(0, 5), 5);
    }

    private static void whatIsNotBetween() {
        LampBus bus = lamp();
        bus.send(0xFF, 0x2E);
        bus.send(256, 0);
        bus.send(0xFF, -1);
        bus.tick(0);
        bus.tick(2001);
        bus.commission(64);
        bus.give(0, 3);
        bus.told(0, 3);
        bus.frames();
        bus.compares();
        bus.gear();
        bus.fail();
        bus.send(0xFF, 0x2E);
        Check.due("FADE with no frame and no tick between", bus.told(0, 5), 5);
        bus.send(0xFF, 0x20);
        bus.power();
        bus.send(0xFF, 0x20);
        Check.due("FADE behind reset with power between", bus.told(0, 5), 0);
    }

    private static void oneAddressAndAnother() {
        LampBus bus = lamp();
        bus.send(0xFF, 0x2E);
        bus.send(0xFE, 0x2E);
        bus.send(0xFF, 0x2E);
        Check.due("FADE by FF, FE, FF", bus.told(0, 5), 0);
        Check.due("level by FE", bus.told(0, 0), 0x2E);
        Check.giveShortAddresses(bus, 2);
        bus.send(0xA3, 6);
        bus.send(1, 0x2E);
        bus.send(3, 0x2E);
        Check.due("FADE of 0 by two addresses", bus.told(0, 5), 0);
        Check.due("FADE of 1 by two addresses", bus.told(1, 5), 0);
        bus.send(3, 0x2E);
        Check.due("FADE of 0 by the address of 1", bus.told(0, 5), 0);
        Check.due("FADE of 1 by its address", bus.told(1, 5), 6);
    }

    private static void specials() {
        LampBus bus = Check.busOf(1);
        bus.give(0, 9);
        bus.send(0xA5, 0);
        Check.due("A5 once", bus.told(0, 12), 0);
        bus.tick(1);
        bus.send(0xA5, 0);
        Check.due("A5 with a tick between", bus.told(0, 12), 0);
        bus.send(0xA5, 255);
        Check.due("A5 0, A5 FF", bus.told(0, 12), 0);
        bus.send(0xA5, 255);
        Check.due("A5 twice", bus.told(0, 12), 1);
        bus.send(0xA7, 0);
        Check.due("A7 once", bus.told(0, 9), 0xFFFFFF);
        bus.send(0xA7, 1);
        Check.due("A7 0, A7 1", bus.told(0, 9), 0xFFFFFF);
        bus.send(0xA7, 1);
        Check.due("A7 twice", bus.told(0, 9), 9);
    }

    private static void twoBuses() {
        LampBus one = Check.busOf(1);
        LampBus other = Check.busOf(1);
        one.send(0xFF, 0x21);
        other.send(0xFF, 0x21);
        Check.due("the frame before was of another bus", other.told(0, 10), 0);
        one.send(0xFF, 0x21);
        Check.due("the frame before was of this bus", one.told(0, 10), 254);
    }
}
