/** Promise 7: the bus fails. */
public final class FailTest {
    public static void main(String[] args) {
        atOnce();
        withFade();
        nothingElse();
        Check.finish();
    }

    private static LampBus bounded() {
        LampBus bus = Check.busOf(1);
        Check.set(bus, 0xFF, 0x2A, 200);
        Check.set(bus, 0xFF, 0x2B, 50);
        return bus;
    }

    private static void atOnce() {
        for (int level = 0; level <= 254; level++) {
            LampBus bus = bounded();
            Check.set(bus, 0xFF, 0x2C, level);
            bus.fail();
            int want = level == 0 ? 0 : Math.max(50, Math.min(200, level));
            Check.due("level by FAIL " + level, bus.told(0, 0), want);
            Check.due("FAIL stays", bus.told(0, 4), level);
        }
        LampBus bus = bounded();
        bus.send(0xFE, 88);
        Check.set(bus, 0xFF, 0x2C, 255);
        bus.fail();
        Check.due("level with FAIL 255", bus.told(0, 0), 88);
    }

    private static void withFade() {
        LampBus bus = Check.busOf(2);
        Check.giveShortAddresses(bus, 2);
        Check.set(bus, 1, 0x2C, 54);
        Check.set(bus, 3, 0x2C, 255);
        Check.set(bus, 0xFF, 0x2E, 4);
        bus.fail();
        Check.due("0 fades to", bus.told(0, 14), 54);
        Check.due("1 does not fade", bus.told(1, 14), LampBus.NONE);
        Check.due("half the way", bus.tick(10), 1);
        Check.due("level at half the way", bus.told(0, 0), 154);
        bus.tick(10);
        Check.due("level at the end", bus.told(0, 0), 54);
        bus.send(2, 100);
        bus.fail();
        Check.due("with FAIL 255 a fade goes on", bus.told(1, 14), 100);
        bus.send(0xFF, 0);
        bus.fail();
        Check.due("from 0 at once", bus.told(0, 0), 54);
        Check.set(bus, 1, 0x2C, 250);
        Check.set(bus, 1, 0x2A, 120);
        bus.fail();
        Check.due("brought within", bus.told(0, 14), 120);
    }

    private static void nothingElse() {
        LampBus bus = Check.busOf(1);
        Check.setSearch(bus, 9);
        bus.send(0xA3, 8);
        Check.sendTwice(bus, 0xA5, 0);
        int frames = bus.frames();
        bus.fail();
        Check.due("DTR behind fail", bus.told(0, 10), 8);
        Check.due("SEARCH behind fail", bus.told(0, 11), 9);
        Check.due("initialised behind fail", bus.told(0, 12), 1);
        Check.due("frames() behind fail", bus.frames(), frames);
    }
}
