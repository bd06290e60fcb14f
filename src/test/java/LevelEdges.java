/** Terms: GO TO a level, and fades. */
final class LevelEdges {
    private static final int[] TICKS = {7, 10, 14, 20, 28, 40, 57, 80, 113, 160, 226, 320, 453, 640, 905};

    private LevelEdges() {
    }

    static void hold(Document document) {
        document.hold("GO TO a level v: 0 stays 0; else it is brought up to LEAST, down to MOST.",
                LevelEdges::bounds, LevelEdges::boundsThatAreOne, LevelEdges::endOfFadeIsBroughtWithin);
        document.hold("With FADE 0, if the level is 0, or v is 0 and the level is LEAST, it is so at once; "
                + "else it FADES: in T ticks, T by FADE 1 .. 15: 7, 10, 14, 20, 28, 40, 57, 80, 113, 160, 226, 320, "
                + "453, 640, 905; behind k of them the level is begin + (v - begin) k / T, cut off towards 0 (of the "
                + "quotient); where it would be below LEAST, and not the end, it is LEAST.",
                LevelEdges::fadeZero, LevelEdges::fromZero, LevelEdges::fromLeastToZero,
                LevelEdges::lastTickOfEachFade, LevelEdges::everyTickDownAndUp, LevelEdges::cutOffTowardsZero,
                LevelEdges::belowLeast, LevelEdges::toItsOwnLevel);
        document.hold("What sets the level otherwise ends a fade.",
                LevelEdges::whatEndsAFade, LevelEdges::whatLeavesAFade);
    }

    private static void bounds() {
        int[][] due = {
            {0, 0}, {1, 50}, {49, 50}, {50, 50}, {51, 51}, {199, 199}, {200, 200}, {201, 200}, {254, 200}
        };
        for (int[] pair : due) {
            LampBus bus = Check.lampAt(50, 200, 100);
            bus.send(0xFE, pair[0]);
            Check.level("by " + pair[0] + " within 50 .. 200", bus, pair[1]);
        }
    }

    private static void boundsThatAreOne() {
        int[][] due = {{0, 0}, {1, 100}, {99, 100}, {100, 100}, {101, 100}, {254, 100}};
        for (int[] pair : due) {
            LampBus bus = Check.lamp(100, 100, 0);
            bus.send(0xFE, pair[0]);
            Check.level("by " + pair[0] + " within 100 .. 100", bus, pair[1]);
        }
    }

    private static void endOfFadeIsBroughtWithin() {
        int[][] due = {{0, 0}, {1, 50}, {49, 50}, {50, 50}, {200, 200}, {201, 200}, {254, 200}};
        for (int[] pair : due) {
            LampBus bus = Check.lamp(50, 200, 1);
            bus.send(0xFF, 4);
            bus.send(0xFE, pair[0]);
            Check.fadesTo("by " + pair[0], bus, pair[1]);
            bus.tick(7);
            Check.level("faded by " + pair[0], bus, pair[1]);
        }
    }

    private static void fadeZero() {
        LampBus bus = Check.lamp(1, 254, 0);
        bus.send(0xFE, 10);
        Check.level("with FADE 0", bus, 10);
        Check.fadesTo("with FADE 0", bus, LampBus.NONE);
        Check.set(bus, 0xFF, 0x2E, 1);
        bus.send(0xFE, 80);
        Check.level("with FADE 1", bus, 10);
        Check.fadesTo("with FADE 1", bus, 80);
        Check.set(bus, 0xFF, 0x2E, 0);
        bus.send(0xFE, 90);
        Check.level("with FADE 0 in a fade", bus, 90);
        Check.fadesTo("with FADE 0 in a fade", bus, LampBus.NONE);
    }

    private static void fromZero() {
        int[] levels = {0, 1, 254};
        for (int level : levels) {
            LampBus bus = Check.lamp(1, 254, 15);
            bus.send(0xFF, 0);
            bus.send(0xFE, level);
            Check.level("from 0 to " + level, bus, level);
            Check.fadesTo("from 0 to " + level, bus, LampBus.NONE);
        }
        LampBus bus = Check.lamp(1, 254, 15);
        bus.send(0xFF, 6);
        bus.send(0xFE, 254);
        Check.level("from 1 to 254", bus, 1);
        Check.fadesTo("from 1 to 254", bus, 254);
    }

    private static void fromLeastToZero() {
        int[] leasts = {1, 50, 254};
        for (int least : leasts) {
            LampBus bus = Check.lamp(least, 254, 15);
            bus.send(0xFF, 6);
            bus.send(0xFE, 0);
            Check.level("from LEAST " + least + " to 0", bus, 0);
            Check.fadesTo("from LEAST " + least + " to 0", bus, LampBus.NONE);
        }
        LampBus bus = Check.lamp(50, 254, 15);
        bus.send(0xFF, 6);
        bus.send(0xFF, 3);
        bus.send(0xFE, 0);
        Check.level("from one above LEAST to 0", bus, 51);
        Check.fadesTo("from one above LEAST to 0", bus, 0);
        bus.send(0xFF, 6);
        bus.send(0xFE, 60);
        Check.fadesTo("from LEAST to another level", bus, 60);
    }

    private static void lastTickOfEachFade() {
        for (int fade = 1; fade <= 15; fade++) {
            LampBus bus = Check.lamp(1, 254, fade);
            bus.send(0xFE, 10);
            Check.fadesTo("before the first tick of FADE " + fade, bus, 10);
            Check.due("all ticks but the last of FADE " + fade, bus.tick(TICKS[fade - 1] - 1), 1);
            Check.due("the last tick of FADE " + fade, bus.tick(1), 0);
            Check.level("behind FADE " + fade, bus, 10);
            Check.fadesTo("behind FADE " + fade, bus, LampBus.NONE);
        }
    }

    private static void everyTickDownAndUp() {
        int[] down = {254, 219, 183, 147, 112, 76, 40, 4};
        int[] up = {4, 39, 75, 111, 146, 182, 218, 254};
        LampBus bus = Check.lamp(1, 254, 1);
        bus.send(0xFE, 4);
        for (int k = 0; k < 8; k++) {
            Check.level("from 254 to 4, behind " + k + " of 7", bus, down[k]);
            bus.tick(1);
        }
        bus.send(0xFE, 254);
        for (int k = 0; k < 8; k++) {
            Check.level("from 4 to 254, behind " + k + " of 7", bus, up[k]);
            bus.tick(1);
        }
    }

    /** A way of one level: the quotient is below 1 on either way until the end. */
    private static void cutOffTowardsZero() {
        LampBus bus = Check.lamp(1, 254, 1);
        bus.send(0xFE, 253);
        bus.tick(6);
        Check.level("from 254 to 253, behind 6 of 7", bus, 254);
        bus.tick(1);
        Check.level("from 254 to 253, behind 7 of 7", bus, 253);
        bus.send(0xFE, 254);
        bus.tick(6);
        Check.level("from 253 to 254, behind 6 of 7", bus, 253);
        bus.tick(1);
        Check.level("from 253 to 254, behind 7 of 7", bus, 254);
    }

    private static void belowLeast() {
        int[] due = {60, 52, 50, 50, 50, 50, 50, 0};
        LampBus bus = Check.lampAt(50, 254, 60);
        Check.set(bus, 0xFF, 0x2E, 1);
        bus.send(0xFE, 0);
        for (int k = 0; k < due.length; k++) {
            Check.level("from 60 to 0 with LEAST 50, behind " + k + " of 7", bus, due[k]);
            Check.fadesTo("behind " + k + " of 7", bus, k < 7 ? 0 : LampBus.NONE);
            bus.tick(1);
        }
    }

    private static void toItsOwnLevel() {
        LampBus bus = Check.lamp(1, 254, 1);
        bus.send(0xFE, 254);
        Check.fadesTo("from 254 to 254", bus, 254);
        Check.due("6 of 7 ticks", bus.tick(6), 1);
        Check.due("7 of 7 ticks", bus.tick(1), 0);
        Check.level("from 254 to 254", bus, 254);
    }

    /** Fades from 200 to 100, at 150 now, with LEAST 1 and MOST 254. */
    private static LampBus fading() {
        LampBus bus = Check.lampAt(1, 254, 200);
        Check.set(bus, 0xFF, 0x2E, 4);
        bus.send(0xFE, 100);
        bus.tick(10);
        return bus;
    }

    private static void ended(String by, LampBus bus, int level) {
        Check.level("by " + by, bus, level);
        Check.fadesTo("by " + by, bus, LampBus.NONE);
        Check.due("gears that fade behind " + by, bus.tick(1), 0);
        Check.level("a tick behind " + by, bus, level);
    }

    private static void whatEndsAFade() {
        int[] due = {0, 159, 141, 151, 149, 254, 1, 149, 151};
        for (int command = 0; command < due.length; command++) {
            LampBus bus = fading();
            bus.send(0xFF, command);
            ended("command " + command, bus, due[command]);
        }
        LampBus reset = fading();
        Check.sendTwice(reset, 0xFF, 0x20);
        ended("the command 20", reset, 254);
        LampBus most = fading();
        Check.set(most, 0xFF, 0x2A, 254);
        ended("MOST as it was", most, 150);
        LampBus least = fading();
        Check.set(least, 0xFF, 0x2B, 1);
        ended("LEAST as it was", least, 150);
        LampBus power = fading();
        power.power();
        ended("power()", power, 254);
    }

    private static void whatLeavesAFade() {
        int[] others = {0x21, 0x2C, 0x2D, 0x2E, 0x2F, 0x40, 0x50, 0x60, 0x70, 0x80};
        for (int command : others) {
            LampBus bus = fading();
            Check.sendTwice(bus, 0xFF, command);
            stays("the command " + command, bus);
        }
        LampBus scene = fading();
        scene.send(0xFF, 0x10);
        stays("a scene of none", scene);
        LampBus other = fading();
        other.send(0, 255);
        other.send(1, 0);
        stays("frames to others", other);
        LampBus initialise = fading();
        Check.sendTwice(initialise, 0xA5, 0);
        stays("A5", initialise);
    }

    private static void stays(String by, LampBus bus) {
        Check.fadesTo("by " + by, bus, 100);
        Check.due("gears that fade behind " + by, bus.tick(9), 1);
        Check.level("nine ticks behind " + by, bus, 105);
        Check.due("gears that fade in the end", bus.tick(1), 0);
        Check.level("in the end", bus, 100);
    }
}
