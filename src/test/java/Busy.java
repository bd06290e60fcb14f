/**
 * A bus in the midst of everything: addresses, a search, fades under way, and the first of two frames
 * sent last. What a refused call must leave alone shows on it.
 */
final class Busy {
    private static final int GEARS = 2;
    private static final int TICKS_TO_COME = 15;

    private Busy() {
    }

    static LampBus bus() {
        LampBus bus = Check.busOf(GEARS);
        bus.give(0, 0x10);
        bus.give(1, 0x20);
        bus.commission(5);
        int[] settings = {0x2B, 0x2C, 0x2D, 0x2F, 0x43};
        for (int i = 0; i < settings.length; i++) {
            Check.set(bus, 0xFF, settings[i], 3 + i);
        }
        Check.set(bus, 0xFF, 0x2A, 220);
        Check.set(bus, 0xFF, 0x2E, 4);
        Check.sendTwice(bus, 0xFF, 0x69);
        Check.sendTwice(bus, 0xA5, 0);
        Check.setSearch(bus, 0x10);
        bus.send(0xAB, 0);
        bus.send(0xA3, 9);
        bus.send(0xFE, 120);
        bus.tick(5);
        bus.send(0xFF, 0x2E);
        return bus;
    }

    /** Whatever can be seen of such a bus is as if the call had never been. */
    static void isAsBefore(String call, LampBus bus) {
        LampBus before = bus();
        for (int gear = 0; gear < GEARS; gear++) {
            for (int what = 0; what < 32; what++) {
                String told = "told(" + gear + ", " + what + ") behind " + call;
                Check.due(told, bus.told(gear, what), before.told(gear, what));
            }
        }
        Check.due("frames() behind " + call, bus.frames(), before.frames());
        Check.due("compares() behind " + call, bus.compares(), before.compares());
        Check.due("a gear behind the last, behind " + call, bus.told(GEARS, 0), LampBus.BAD);
        goesOn(call, bus);
    }

    /** What can't be told, but does its work later: the first of two frames, the fades, the next random numbers. */
    private static void goesOn(String call, LampBus bus) {
        bus.send(0xFF, 0x2E);
        Check.due("FADE by the second of two, behind " + call, bus.told(1, 5), 9);
        Check.due("gears that fade, behind " + call, bus.tick(TICKS_TO_COME - 1), GEARS);
        Check.due("gears that fade in the end, behind " + call, bus.tick(1), 0);
        Check.sendTwice(bus, 0xA7, 0);
        Check.due("the next random number of 0, behind " + call, bus.told(0, 9), 0x10);
        Check.due("the next random number of 1, behind " + call, bus.told(1, 9), 0x20);
    }
}
