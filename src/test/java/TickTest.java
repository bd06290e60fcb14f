/** Promise 5: tick lets ticks go by and tells how many gears fade then. */
public final class TickTest {
    public static void main(String[] args) {
        wrongNumbers();
        howManyFade();
        manyAtOnceAreAsOneByOne();
        Check.finish();
    }

    private static void wrongNumbers() {
        LampBus bus = Check.busOf(1);
        Check.set(bus, 0xFF, 0x2E, 1);
        bus.send(0xFE, 100);
        int[] wrong = {0, -1, 2001, 1000000, Integer.MIN_VALUE, Integer.MAX_VALUE};
        for (int n : wrong) {
            Check.due("tick(" + n + ")", bus.tick(n), LampBus.BAD);
            Check.due("level behind tick(" + n + ")", bus.told(0, 0), 254);
        }
        Check.due("tick(1)", bus.tick(1), 1);
        Check.due("level behind tick(1)", bus.told(0, 0), 232);
        Check.due("tick(2000)", bus.tick(2000), 0);
        Check.due("level behind tick(2000)", bus.told(0, 0), 100);
        Check.due("frames() does not count ticks", bus.frames(), 4);
    }

    private static void howManyFade() {
        LampBus bus = Check.busOf(3);
        Check.giveShortAddresses(bus, 3);
        Check.set(bus, 1, 0x2E, 1);
        Check.set(bus, 3, 0x2E, 2);
        Check.set(bus, 5, 0x2E, 3);
        Check.due("before", bus.tick(1), 0);
        bus.send(0xFE, 10);
        Check.due("all", bus.tick(6), 3);
        Check.due("7", bus.tick(1), 2);
        Check.due("9", bus.tick(2), 2);
        Check.due("10", bus.tick(1), 1);
        bus.send(0, 100);
        Check.due("11", bus.tick(1), 2);
        Check.due("13", bus.tick(2), 2);
        Check.due("14", bus.tick(1), 1);
        Check.due("17", bus.tick(3), 0);
        Check.due("level of 0", bus.told(0, 0), 100);
        Check.due("level of 1", bus.told(1, 0), 10);
        Check.due("level of 2", bus.told(2, 0), 10);
    }

    private static void manyAtOnceAreAsOneByOne() {
        LampBus one = Check.busOf(1);
        LampBus other = Check.busOf(1);
        Check.set(one, 0xFF, 0x2E, 8);
        Check.set(other, 0xFF, 0x2E, 8);
        one.send(0xFE, 3);
        other.send(0xFE, 3);
        for (int i = 0; i < 11; i++) {
            for (int k = 0; k < 7; k++) {
                one.tick(1);
            }
            other.tick(7);
            Check.due("levels behind " + (7 * i + 7), one.told(0, 0), other.told(0, 0));
        }
        Check.due("the level behind 77 of 80", one.told(0, 0), 254 - 251 * 77 / 80);
    }
}
