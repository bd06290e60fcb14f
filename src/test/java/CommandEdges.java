/** Terms: the commands 0 .. 8 and 10 .. 1F. */
final class CommandEdges {
    private static final int[] STEPS = {72, 51, 36, 25, 18, 13, 9, 6, 4, 3, 2, 2, 1, 1, 1};

    private CommandEdges() {
    }

    static void hold(Document document) {
        document.hold("COMMANDS: 0 level 0.", CommandEdges::off);
        document.hold("1 up, 2 down by S: of what the level is, if that is above 0, S by RATE 1 .. 15: 72, 51, 36, 25, "
                + "18, 13, 9, 6, 4, 3, 2, 2, 1, 1, 1, not above MOST, not below LEAST.",
                CommandEdges::stepsOfEachRate, CommandEdges::stepsAtTheBounds, CommandEdges::stepInAFade);
        document.hold("3 up, 4 down by 1 likewise.", CommandEdges::byOneAtTheBounds);
        document.hold("5 MOST.", CommandEdges::most);
        document.hold("6 LEAST.", CommandEdges::least);
        document.hold("7 down by 1, from LEAST (or below) to 0.", CommandEdges::downOrOff);
        document.hold("8 up by 1, from 0 to LEAST.", CommandEdges::onOrUp);
        document.hold("10 .. 1F go to scene b - 10's level, if it is not 255.",
                CommandEdges::firstAndLastScene, CommandEdges::sceneOfNone, CommandEdges::sceneOutOfBounds,
                CommandEdges::besideTheScenes);
    }

    /** For each pair of a level and the one that is due: within these bounds, at once, also with FADE 15. */
    private static void moves(int command, int least, int most, int[][] due) {
        for (int[] pair : due) {
            LampBus bus = Check.lampAt(least, most, pair[0]);
            Check.level("before command " + command, bus, pair[0]);
            Check.set(bus, 0xFF, 0x2E, 15);
            bus.send(0xFF, command);
            Check.level("by command " + command + " from " + pair[0], bus, pair[1]);
            Check.fadesTo("by command " + command + " from " + pair[0], bus, LampBus.NONE);
        }
    }

    private static void off() {
        moves(0, 1, 254, new int[][] {{254, 0}, {1, 0}, {0, 0}});
        moves(0, 50, 200, new int[][] {{200, 0}, {50, 0}, {0, 0}});
    }

    private static void stepsOfEachRate() {
        for (int rate = 1; rate <= 15; rate++) {
            LampBus bus = Check.lampAt(1, 254, 100);
            Check.set(bus, 0xFF, 0x2F, rate);
            bus.send(0xFF, 1);
            Check.level("up by RATE " + rate, bus, 100 + STEPS[rate - 1]);
            bus.send(0xFE, 100);
            bus.send(0xFF, 2);
            Check.level("down by RATE " + rate, bus, 100 - STEPS[rate - 1]);
        }
    }

    /** RATE 7, a step of 9. */
    private static void stepsAtTheBounds() {
        moves(1, 50, 200, new int[][] {{0, 0}, {50, 59}, {190, 199}, {191, 200}, {192, 200}, {199, 200}, {200, 200}});
        moves(2, 50, 200, new int[][] {{0, 0}, {200, 191}, {60, 51}, {59, 50}, {58, 50}, {51, 50}, {50, 50}});
        moves(1, 1, 254, new int[][] {{0, 0}, {1, 10}, {245, 254}, {246, 254}, {254, 254}});
        moves(2, 1, 254, new int[][] {{0, 0}, {254, 245}, {10, 1}, {9, 1}, {1, 1}});
        moves(1, 100, 100, new int[][] {{0, 0}, {100, 100}});
        moves(2, 100, 100, new int[][] {{0, 0}, {100, 100}});
    }

    private static void stepInAFade() {
        LampBus bus = Check.lamp(1, 254, 4);
        bus.send(0xFE, 54);
        bus.tick(10);
        bus.send(0xFF, 1);
        Check.level("up from 154 in a fade", bus, 163);
        Check.fadesTo("up in a fade", bus, LampBus.NONE);
    }

    private static void byOneAtTheBounds() {
        moves(3, 50, 200, new int[][] {{0, 0}, {50, 51}, {198, 199}, {199, 200}, {200, 200}});
        moves(4, 50, 200, new int[][] {{0, 0}, {200, 199}, {52, 51}, {51, 50}, {50, 50}});
        moves(3, 1, 254, new int[][] {{0, 0}, {1, 2}, {253, 254}, {254, 254}});
        moves(4, 1, 254, new int[][] {{0, 0}, {254, 253}, {2, 1}, {1, 1}});
    }

    private static void most() {
        moves(5, 50, 200, new int[][] {{0, 200}, {50, 200}, {199, 200}, {200, 200}});
        moves(5, 1, 254, new int[][] {{0, 254}, {254, 254}});
    }

    private static void least() {
        moves(6, 50, 200, new int[][] {{0, 50}, {50, 50}, {51, 50}, {200, 50}});
        moves(6, 1, 254, new int[][] {{0, 1}, {1, 1}});
    }

    private static void downOrOff() {
        moves(7, 50, 200, new int[][] {{200, 199}, {52, 51}, {51, 50}, {50, 0}, {0, 0}});
        moves(7, 1, 254, new int[][] {{254, 253}, {2, 1}, {1, 0}, {0, 0}});
        moves(7, 100, 100, new int[][] {{100, 0}, {0, 0}});
    }

    private static void onOrUp() {
        moves(8, 50, 200, new int[][] {{0, 50}, {50, 51}, {199, 200}, {200, 200}});
        moves(8, 1, 254, new int[][] {{0, 1}, {1, 2}, {253, 254}, {254, 254}});
        moves(8, 100, 100, new int[][] {{0, 100}, {100, 100}});
    }

    private static void firstAndLastScene() {
        LampBus bus = Check.lampAt(1, 254, 100);
        Check.set(bus, 0xFF, 0x40, 10);
        Check.set(bus, 0xFF, 0x41, 20);
        Check.set(bus, 0xFF, 0x4E, 30);
        Check.set(bus, 0xFF, 0x4F, 40);
        int[][] due = {{0x10, 10}, {0x11, 20}, {0x1E, 30}, {0x1F, 40}};
        for (int[] pair : due) {
            bus.send(0xFF, pair[0]);
            Check.level("by " + pair[0], bus, pair[1]);
        }
    }

    private static void sceneOfNone() {
        for (int scene = 0; scene < 16; scene++) {
            LampBus bus = Check.lampAt(1, 254, 100);
            bus.send(0xFF, 0x10 + scene);
            Check.level("by scene " + scene + " of none", bus, 100);
            Check.set(bus, 0xFF, 0x40 + scene, 254);
            bus.send(0xFF, 0x10 + scene);
            Check.level("by scene " + scene + " of 254", bus, 254);
            Check.set(bus, 0xFF, 0x40 + scene, 255);
            bus.send(0xFF, 0x10 + scene);
            Check.level("by scene " + scene + " of 255", bus, 254);
        }
    }

    private static void sceneOutOfBounds() {
        int[][] due = {{0, 0}, {1, 50}, {49, 50}, {50, 50}, {200, 200}, {201, 200}, {254, 200}};
        for (int[] pair : due) {
            LampBus bus = Check.lampAt(50, 200, 100);
            Check.set(bus, 0xFF, 0x40, pair[0]);
            bus.send(0xFF, 0x10);
            Check.level("by a scene of " + pair[0], bus, pair[1]);
        }
    }

    /** F and 20 (once) stand beside the scenes and go to none of them. */
    private static void besideTheScenes() {
        LampBus bus = Check.lampAt(1, 254, 100);
        for (int scene = 0; scene < 16; scene++) {
            Check.set(bus, 0xFF, 0x40 + scene, 10);
        }
        bus.send(0xFF, 0x0F);
        Check.level("by F", bus, 100);
        bus.send(0xFF, 0x20);
        Check.level("by 20 once", bus, 100);
    }
}
