/** Promise 4: whom a frame is for, what is no frame, and how answers fall together. */
public final class SendAddressTest {
    public static void main(String[] args) {
        notTwoBytes();
        shortAddresses();
        groups();
        all();
        specialsThatSayNothing();
        answers();
        Check.finish();
    }

    private static void notTwoBytes() {
        LampBus bus = Check.busOf(1);
        int[] wrong = {-1, 256, Integer.MIN_VALUE, Integer.MAX_VALUE, 0xFF + 256};
        for (int value : wrong) {
            Check.due("send(" + value + ", 0)", bus.send(value, 0), LampBus.BAD);
            Check.due("send(FE, " + value + ")", bus.send(0xFE, value), LampBus.BAD);
            Check.due("send(FF, " + value + ")", bus.send(0xFF, value), LampBus.BAD);
        }
        Check.due("send(-1, -1)", bus.send(-1, -1), LampBus.BAD);
        Check.due("level behind wrong frames", bus.told(0, 0), 254);
        Check.due("frames() behind wrong frames", bus.frames(), 0);
    }

    private static void shortAddresses() {
        LampBus bus = Check.busOf(3);
        bus.give(0, 1);
        bus.give(1, 2);
        bus.commission(0);
        Check.due("gear 2 (random 0) has the first address", bus.told(2, 8), 0);
        Check.due("gear 1 has the last", bus.told(1, 8), 2);
        Check.set(bus, 5, 0x80, 127);
        Check.due("address 63", bus.told(1, 8), 63);
        bus.send(0, 10);
        bus.send(2, 20);
        bus.send(126, 30);
        Check.due("level of address 0", bus.told(2, 0), 10);
        Check.due("level of address 1", bus.told(0, 0), 20);
        Check.due("level of address 63", bus.told(1, 0), 30);
        Check.due("query of address 0", bus.send(1, 0xA0), 10);
        Check.due("query of address 63", bus.send(127, 0xA0), 30);
        for (int address = 2; address < 63; address++) {
            Check.due("query of address " + address, bus.send(2 * address + 1, 0x91), LampBus.NONE);
        }
        Check.set(bus, 3, 0x80, 1);
        Check.due("two gears of one address that say the same", bus.send(1, 0x91), 255);
        Check.due("two gears of one address that differ", bus.send(1, 0xA0), LampBus.CLASH);
    }

    private static void groups() {
        LampBus bus = Check.busOf(16);
        Check.giveShortAddresses(bus, 16);
        for (int i = 0; i < 16; i++) {
            Check.sendTwice(bus, 2 * i + 1, 0x60 + i);
            bus.send(0x80 + 2 * i, 100 + i);
        }
        for (int i = 0; i < 16; i++) {
            Check.due("groups of gear " + i, bus.told(i, 7), 1 << i);
            Check.due("level by group " + i, bus.told(i, 0), 100 + i);
            Check.due("query by group " + i, bus.send(0x81 + 2 * i, 0xA0), 100 + i);
        }
        Check.sendTwice(bus, 0x81, 0x6F);
        Check.due("a group of two", bus.send(0x9F, 0xA0), LampBus.CLASH);
        bus.send(0x9E, 7);
        Check.due("a group of two at one level", bus.send(0x9F, 0xA0), 7);
        Check.sendTwice(bus, 0x9F, 0x7F);
        Check.due("all out of the group by the group", bus.send(0x9F, 0x91), LampBus.NONE);
        Check.due("the other group stays", bus.told(0, 7), 1);
    }

    private static void all() {
        LampBus bus = Check.busOf(2);
        bus.send(0xFE, 40);
        Check.due("level by FE of 0", bus.told(0, 0), 40);
        Check.due("level by FE of 1", bus.told(1, 0), 40);
        Check.due("FF queries all", bus.send(0xFF, 0xA0), 40);
        bus.send(0xFF, 0);
        Check.due("FF 0 is the command", bus.told(1, 0), 0);
    }

    /** All a from A0 to FD are special: none is an address, and those not named do nothing. */
    private static void specialsThatSayNothing() {
        for (int a = 0xA0; a <= 0xFD; a++) {
            boolean named = (a & 1) == 1 && (a <= 0xAB || a >= 0xB1 && a <= 0xBB);
            if (named) {
                continue;
            }
            LampBus bus = Check.busOf(1);
            Check.sendTwice(bus, 0xA5, 0);
            Check.sendTwice(bus, 0xFF, 0x60);
            Check.due("send(" + a + ", A0)", bus.send(a, 0xA0), LampBus.NONE);
            Check.due("send(" + a + ", A0) again", bus.send(a, 0xA0), LampBus.NONE);
            Check.due("frames() behind " + a, bus.frames(), 6);
            Check.due("level behind " + a, bus.told(0, 0), 254);
            Check.due("initialised behind " + a, bus.told(0, 12), 1);
            Check.due("withdrawn behind " + a, bus.told(0, 13), 0);
            Check.due("SEARCH behind " + a, bus.told(0, 11), 0xFFFFFF);
            Check.due("DTR behind " + a, bus.told(0, 10), 0);
            Check.due("SHORT behind " + a, bus.told(0, 8), 255);
        }
    }

    private static void answers() {
        LampBus bus = Check.busOf(3);
        Check.giveShortAddresses(bus, 3);
        bus.send(0xFE, 50);
        Check.due("three say the same", bus.send(0xFF, 0xA0), 50);
        bus.send(4, 51);
        Check.due("the last differs", bus.send(0xFF, 0xA0), LampBus.CLASH);
        bus.send(4, 50);
        bus.send(0, 51);
        Check.due("the first differs", bus.send(0xFF, 0xA0), LampBus.CLASH);
        bus.send(0, 52);
        bus.send(2, 53);
        bus.send(4, 52);
        Check.due("the middle differs", bus.send(0xFF, 0xA0), LampBus.CLASH);
        bus.send(0xFE, 0);
        Check.due("none is lit", bus.send(0xFF, 0x93), LampBus.NONE);
        Check.due("the byte 0 is an answer", bus.send(0xFF, 0xA0), 0);
        bus.send(2, 9);
        Check.due("one is lit", bus.send(0xFF, 0x93), 255);
        Check.due("all the same but one that says nothing", bus.send(0xFF, 0x93), 255);
    }
}
