/** Promise 6: power comes again. */
public final class PowerTest {
    public static void main(String[] args) {
        levels();
        endsFades();
        whatIsAsAtFirst();
        Check.finish();
    }

    private static LampBus bounded() {
        LampBus bus = Check.busOf(1);
        Check.set(bus, 0xFF, 0x2A, 200);
        Check.set(bus, 0xFF, 0x2B, 50);
        Check.set(bus, 0xFF, 0x2E, 9);
        return bus;
    }

    private static void levels() {
        for (int level = 0; level <= 254; level++) {
            LampBus bus = bounded();
            Check.set(bus, 0xFF, 0x2D, level);
            bus.power();
            int want = level == 0 ? 0 : Math.max(50, Math.min(200, level));
            Check.due("level by POWER " + level, bus.told(0, 0), want);
            Check.due("no fade by POWER " + level, bus.told(0, 14), LampBus.NONE);
            Check.due("POWER stays", bus.told(0, 3), level);
        }
        LampBus bus = bounded();
        Check.set(bus, 0xFF, 0x2D, 255);
        bus.send(0xFF, 0);
        bus.power();
        Check.due("level 0 with POWER 255", bus.told(0, 0), 0);
        bus.send(0xFE, 99);
        bus.power();
        Check.due("level 99 with POWER 255", bus.told(0, 0), 99);
    }

    private static void endsFades() {
        LampBus bus = Check.busOf(2);
        Check.giveShortAddresses(bus, 2);
        Check.set(bus, 1, 0x2D, 255);
        Check.set(bus, 3, 0x2D, 77);
        Check.set(bus, 0xFF, 0x2E, 4);
        bus.send(0xFE, 54);
        bus.tick(10);
        bus.power();
        Check.due("level it had in a fade", bus.told(0, 0), 154);
        Check.due("fade of 0", bus.told(0, 14), LampBus.NONE);
        Check.due("level of 1", bus.told(1, 0), 77);
        Check.due("fade of 1", bus.told(1, 14), LampBus.NONE);
        Check.due("fades", bus.tick(1), 0);
        Check.due("level it had, later", bus.told(0, 0), 154);
    }

    private static void whatIsAsAtFirst() {
        LampBus bus = Check.busOf(1);
        bus.give(0, 0x777777);
        bus.commission(12);
        int[] settings = {0x2B, 0x2C, 0x2D, 0x2E, 0x2F, 0x40, 0x4F, 0x2A};
        for (int i = 0; i < settings.length; i++) {
            Check.set(bus, 0xFF, settings[i], 3 + i);
        }
        Check.sendTwice(bus, 0xFF, 0x65);
        Check.setSearch(bus, 0x777777);
        Check.sendTwice(bus, 0xA5, 0);
        bus.send(0xAB, 0);
        Check.due("withdrawn before", bus.told(0, 13), 1);
        int frames = bus.frames();
        bus.power();
        int[] want = {5, 3, 10, 5, 4, 6, 7, 32, 12, 0x777777, 0, 0xFFFFFF, 0, 0, LampBus.NONE};
        for (int what = 0; what < want.length; what++) {
            Check.due("told " + what + " behind power", bus.told(0, what), want[what]);
        }
        Check.due("scene 0 behind power", bus.told(0, 16), 8);
        Check.due("scene 15 behind power", bus.told(0, 31), 9);
        Check.due("frames() behind power", bus.frames(), frames);
        Check.due("compares() behind power", bus.compares(), 26);
        bus.give(0, 4);
        bus.power();
        Check.sendTwice(bus, 0xA5, 0);
        Check.sendTwice(bus, 0xA7, 0);
        Check.due("the next random number behind power", bus.told(0, 9), 4);
    }
}
