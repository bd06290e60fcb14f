/** Promise 3: give sets the next random number of one gear; RANDOM takes it by A7 twice. */
public final class GiveTest {
    public static void main(String[] args) {
        LampBus bus = Check.busOf(2);
        refusals(bus);
        Check.due("give(0, 0)", bus.give(0, 0), true);
        Check.due("give(0, FFFFFF)", bus.give(0, 0xFFFFFF), true);
        Check.due("give(0, 1)", bus.give(0, 1), true);
        Check.due("give(1, 2)", bus.give(1, 2), true);
        Check.due("RANDOM before A7", bus.told(0, 9), 0xFFFFFF);
        refusals(bus);
        randomise(bus);
        Check.due("RANDOM of 0: the last that was given", bus.told(0, 9), 1);
        Check.due("RANDOM of 1", bus.told(1, 9), 2);
        Check.sendTwice(bus, 0xFF, 0x20);
        Check.due("RANDOM behind reset", bus.told(0, 9), 0xFFFFFF);
        bus.power();
        randomise(bus);
        Check.due("the next random number stays for the next A7", bus.told(0, 9), 1);
        Check.due("frames() does not count give()", bus.frames(), 10);
        Check.finish();
    }

    private static void randomise(LampBus bus) {
        Check.sendTwice(bus, 0xA5, 0);
        Check.sendTwice(bus, 0xA7, 0);
    }

    private static void refusals(LampBus bus) {
        int[] gears = {-1, 2, 16, Integer.MIN_VALUE, Integer.MAX_VALUE};
        for (int gear : gears) {
            Check.due("give(" + gear + ", 9)", bus.give(gear, 9), false);
        }
        int[] randoms = {-1, 0x1000000, Integer.MIN_VALUE, Integer.MAX_VALUE};
        for (int random : randoms) {
            Check.due("give(0, " + random + ")", bus.give(0, random), false);
        }
    }
}
