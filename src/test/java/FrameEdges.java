/** Terms: gears, frames, addresses, and how answers fall together. */
final class FrameEdges {
    private FrameEdges() {
    }

    static void hold(Document document) {
        document.hold("GEARS are numbered as they come, at most 16.", FrameEdges::firstAndLastGear);
        document.hold("Each has a LEVEL 0 .. 254 (254 at first), LEAST (1) and MOST (254) level, POWER (254) and "
                + "FAIL (254) levels, FADE 0 .. 15 (0), RATE 1 .. 15 (7), GROUPS as 16 bits (0), 16 SCENES (255: none), "
                + "a SHORT address 0 .. 63 (255: none), a RANDOM number of 24 bits (FFFFFF, hexadecimal, as all below), "
                + "a byte DTR (0), a SEARCH number (FFFFFF), a next random number (0), and is INITIALISED or not, "
                + "WITHDRAWN or not (not).",
                FrameEdges::atFirst, FrameEdges::lowestValues, FrameEdges::highestValues);
        document.hold("A FRAME is two bytes a, b.", FrameEdges::lowestAndHighestBytes);
        document.hold("It is TWICE, if the frame before, of this bus, was the same and not taken as the second of two, "
                + "and no tick was between them.",
                FrameEdges::noFrameBefore, FrameEdges::thirdAndFourth, FrameEdges::tickBetween,
                FrameEdges::refusedCallsBetween, FrameEdges::anotherFrameBetween, FrameEdges::anotherBus);
        document.hold("ADDRESS a: 0 .. 7F short address a / 2; 80 .. 9F group (a - 80) / 2; FE, FF all.",
                FrameEdges::firstAndLastShort, FrameEdges::noShort, FrameEdges::firstAndLastGroup, FrameEdges::all);
        document.hold("Others are special.", FrameEdges::besideTheAddresses, FrameEdges::specialWithoutMeaning);
        document.hold("Even a: b is a level: 255 ends a fade; else GO TO it.",
                FrameEdges::lowestAndHighestLevel, FrameEdges::level255);
        document.hold("Odd a: b is a COMMAND.", FrameEdges::lowestAndHighestCommand);
        document.hold("THE ANSWER of the bus: none; one byte, if all that answer say the same; "
                + "else they fall on one another.",
                FrameEdges::noAnswer, FrameEdges::oneByte, FrameEdges::differentBytes);
    }

    private static void firstAndLastGear() {
        LampBus bus = new LampBus();
        for (int i = 0; i < 16; i++) {
            Check.due("gear() behind " + i, bus.gear(), i);
        }
        Check.due("gear() behind 16", bus.gear(), LampBus.BAD);
        Check.due("told(15, 0)", bus.told(15, 0), 254);
        Check.due("told(16, 0)", bus.told(16, 0), LampBus.BAD);
    }

    private static void atFirst() {
        int[] first = {254, 1, 254, 254, 254, 0, 7, 0, 255, 0xFFFFFF, 0, 0xFFFFFF, 0, 0, LampBus.NONE};
        LampBus bus = Check.busOf(16);
        int[] gears = {0, 15};
        for (int gear : gears) {
            for (int what = 0; what < first.length; what++) {
                Check.due("told(" + gear + ", " + what + ")", bus.told(gear, what), first[what]);
            }
            for (int scene = 0; scene < 16; scene++) {
                Check.due("scene " + scene + " of " + gear, bus.told(gear, 16 + scene), 255);
            }
        }
        Check.sendTwice(bus, 0xA5, 0);
        Check.sendTwice(bus, 0xA7, 0);
        Check.due("the next random number of 0", bus.told(0, 9), 0);
        Check.due("the next random number of 15", bus.told(15, 9), 0);
    }

    /** Each value as low as it goes, and tried lower where a frame can try it. */
    private static void lowestValues() {
        LampBus bus = Check.searched(0);
        int[] settings = {0x2A, 0x2B, 0x2C, 0x2D, 0x2E, 0x2F, 0x40, 0x4F};
        for (int setting : settings) {
            Check.set(bus, 0xFF, setting, 0);
        }
        Check.set(bus, 0xFF, 0x80, 1);
        Check.setSearch(bus, 0);
        bus.send(0xFE, 0);
        bus.send(0xFF, 2);
        bus.send(0xFF, 4);
        bus.send(0xFF, 7);
        bus.send(0xA3, 0);
        int[] want = {0, 1, 1, 0, 0, 0, 1, 0, 0, 0, 0, 0};
        for (int what = 0; what < want.length; what++) {
            Check.due("told(0, " + what + ") at its lowest", bus.told(0, what), want[what]);
        }
        Check.due("scene 0 at its lowest", bus.told(0, 16), 0);
        Check.due("scene 15 at its lowest", bus.told(0, 31), 0);
    }

    /** Each value as high as it goes, and tried higher where a frame can try it. */
    private static void highestValues() {
        LampBus bus = Check.searched(0xFFFFFF);
        Check.set(bus, 0xFF, 0x80, 127);
        int[] settings = {0x2A, 0x2B, 0x2C, 0x2D, 0x2E, 0x2F, 0x40, 0x4F};
        for (int setting : settings) {
            Check.set(bus, 0xFF, setting, 255);
        }
        for (int group = 0; group < 16; group++) {
            Check.sendTwice(bus, 0xFF, 0x60 + group);
        }
        Check.setSearch(bus, 0xFFFFFF);
        bus.send(0xFE, 254);
        int[] up = {1, 3, 8, 5};
        for (int command : up) {
            bus.send(0xFF, command);
        }
        int[] want = {254, 254, 254, 255, 255, 15, 15, 0xFFFF, 63, 0xFFFFFF, 255, 0xFFFFFF, 1};
        for (int what = 0; what < want.length; what++) {
            Check.due("told(0, " + what + ") at its highest", bus.told(0, what), want[what]);
        }
        Check.due("scene 0 at its highest", bus.told(0, 16), 255);
        Check.due("scene 15 at its highest", bus.told(0, 31), 255);
    }

    private static void lowestAndHighestBytes() {
        int[][] frames = {{0, 0}, {0, 255}, {255, 0}, {255, 255}};
        LampBus bus = Check.busOf(1);
        for (int i = 0; i < frames.length; i++) {
            int answer = bus.send(frames[i][0], frames[i][1]);
            Check.due("send(" + frames[i][0] + ", " + frames[i][1] + ")", answer, LampBus.NONE);
            Check.due("frames() behind it", bus.frames(), i + 1);
        }
    }

    private static LampBus withDtr(int dtr) {
        LampBus bus = Check.busOf(1);
        bus.send(0xA3, dtr);
        return bus;
    }

    private static void noFrameBefore() {
        LampBus bus = Check.busOf(1);
        bus.send(0xFF, 0x21);
        Check.due("DTR by the first frame of all", bus.told(0, 10), 0);
        bus.send(0xFF, 0x21);
        Check.due("DTR by the second frame of all", bus.told(0, 10), 254);
    }

    private static void thirdAndFourth() {
        LampBus bus = Check.busOf(1);
        Check.sendTwice(bus, 0xFF, 0x21);
        bus.power();
        bus.send(0xFF, 0x21);
        Check.due("DTR by the third", bus.told(0, 10), 0);
        bus.send(0xFF, 0x21);
        Check.due("DTR by the fourth", bus.told(0, 10), 254);
    }

    private static void tickBetween() {
        int[] numbers = {1, 2000};
        for (int n : numbers) {
            LampBus bus = withDtr(5);
            bus.send(0xFF, 0x2E);
            bus.tick(n);
            bus.send(0xFF, 0x2E);
            Check.due("FADE with tick(" + n + ") between", bus.told(0, 5), 0);
            bus.send(0xFF, 0x2E);
            Check.due("FADE by the third, with the tick before the second", bus.told(0, 5), 5);
        }
    }

    private static void refusedCallsBetween() {
        LampBus bus = withDtr(5);
        bus.send(0xFF, 0x2E);
        bus.tick(0);
        bus.tick(2001);
        bus.send(256, 0x2E);
        bus.send(0xFF, -1);
        bus.commission(64);
        bus.send(0xFF, 0x2E);
        Check.due("FADE with refused calls between", bus.told(0, 5), 5);
    }

    private static void anotherFrameBetween() {
        int[][] frames = {{0xFF, 0x2F}, {0xFE, 0x2E}, {0xFD, 0x2E}, {1, 0x2E}, {0xFF, 0xA0}};
        for (int[] frame : frames) {
            LampBus bus = withDtr(5);
            bus.send(0xFF, 0x2E);
            bus.send(frame[0], frame[1]);
            bus.send(0xFF, 0x2E);
            Check.due("FADE with " + frame[0] + " " + frame[1] + " between", bus.told(0, 5), 0);
        }
    }

    private static void anotherBus() {
        LampBus one = withDtr(5);
        LampBus other = withDtr(5);
        one.send(0xFF, 0x2E);
        other.send(0xFF, 0x2E);
        Check.due("FADE with the frame before on another bus", other.told(0, 5), 0);
        one.send(0xFF, 0x2E);
        Check.due("FADE with a frame of another bus between", one.told(0, 5), 5);
    }

    /** Gears 0, 1, 2 with the short addresses 0, 62, 63. */
    private static LampBus withShorts() {
        LampBus bus = Check.busOf(3);
        Check.giveShortAddresses(bus, 3);
        Check.set(bus, 3, 0x80, 125);
        Check.set(bus, 5, 0x80, 127);
        return bus;
    }

    private static void levels(String when, LampBus bus, int... want) {
        for (int gear = 0; gear < want.length; gear++) {
            Check.due("the level of " + gear + ", " + when, bus.told(gear, 0), want[gear]);
        }
    }

    private static void firstAndLastShort() {
        LampBus bus = withShorts();
        bus.send(0x00, 10);
        levels("by a = 0", bus, 10, 254, 254);
        bus.send(0x7E, 30);
        levels("by a = 7E", bus, 10, 254, 30);
        bus.send(0x7C, 20);
        levels("by a = 7C", bus, 10, 20, 30);
        Check.due("the level by a = 1", bus.send(0x01, 0xA0), 10);
        Check.due("the level by a = 7F", bus.send(0x7F, 0xA0), 30);
        Check.due("the level by a = 7D", bus.send(0x7D, 0xA0), 20);
        Check.due("the level by a = 3", bus.send(0x03, 0xA0), LampBus.NONE);
    }

    private static void noShort() {
        LampBus bus = Check.busOf(1);
        for (int a = 0; a < 0x80; a++) {
            Check.due("send(" + a + ", 91) without address", bus.send(a, 0x91), LampBus.NONE);
        }
        Check.level("behind all short addresses", bus, 254);
    }

    private static void firstAndLastGroup() {
        LampBus bus = withShorts();
        Check.sendTwice(bus, 0x01, 0x60);
        Check.sendTwice(bus, 0x7D, 0x6F);
        bus.send(0x80, 10);
        levels("by a = 80", bus, 10, 254, 254);
        bus.send(0x9E, 20);
        levels("by a = 9E", bus, 10, 20, 254);
        Check.due("the level by a = 81", bus.send(0x81, 0xA0), 10);
        Check.due("the level by a = 9F", bus.send(0x9F, 0xA0), 20);
        Check.due("the level by a = 83", bus.send(0x83, 0xA0), LampBus.NONE);
        Check.due("the level by a = 9D", bus.send(0x9D, 0xA0), LampBus.NONE);
    }

    private static void all() {
        LampBus bus = Check.busOf(16);
        bus.send(0xFE, 40);
        for (int gear = 0; gear < 16; gear++) {
            Check.due("the level of " + gear + " by FE", bus.told(gear, 0), 40);
        }
        bus.send(0xFF, 0);
        for (int gear = 0; gear < 16; gear++) {
            Check.due("the level of " + gear + " by FF", bus.told(gear, 0), 0);
        }
    }

    /** A gear that is in every group hears neither a level nor a query by what is no address. */
    private static void besideTheAddresses() {
        LampBus bus = Check.busOf(1);
        for (int group = 0; group < 16; group++) {
            Check.sendTwice(bus, 0xFF, 0x60 + group);
        }
        for (int a = 0xA0; a <= 0xFD; a++) {
            Check.due("send(" + a + ", 91)", bus.send(a, 0x91), LampBus.NONE);
            Check.level("by a = " + a, bus, 254);
        }
    }

    /** A gear that would hear every special frame that is named, hears nothing by the others. */
    private static void specialWithoutMeaning() {
        int[] want = {254, 1, 254, 254, 254, 0, 7, 0, 63, 5, 0, 5, 1, 0, LampBus.NONE};
        for (int a = 0xA0; a <= 0xFD; a++) {
            boolean named = a % 2 == 1 && (a <= 0xAB || a >= 0xB1 && a <= 0xBB);
            if (named) {
                continue;
            }
            LampBus bus = Check.searched(5);
            Check.setSearch(bus, 5);
            bus.send(0xB7, 127);
            Check.due("send(" + a + ", 127)", bus.send(a, 127), LampBus.NONE);
            Check.due("send(" + a + ", 127) again", bus.send(a, 127), LampBus.NONE);
            for (int what = 0; what < want.length; what++) {
                Check.due("told(0, " + what + ") behind " + a, bus.told(0, what), want[what]);
            }
        }
    }

    private static void lowestAndHighestLevel() {
        LampBus bus = Check.lampAt(1, 254, 100);
        bus.send(0xFE, 254);
        Check.level("by 254", bus, 254);
        bus.send(0xFE, 1);
        Check.level("by 1", bus, 1);
        bus.send(0xFE, 0);
        Check.level("by 0", bus, 0);
    }

    private static void level255() {
        LampBus bus = Check.lamp(1, 254, 4);
        bus.send(0xFE, 54);
        bus.tick(10);
        bus.send(0xFE, 255);
        Check.level("by 255 in a fade", bus, 154);
        Check.fadesTo("by 255 in a fade", bus, LampBus.NONE);
        Check.due("tick(2000) behind it", bus.tick(2000), 0);
        Check.level("some time behind it", bus, 154);
        bus.send(0xFE, 255);
        Check.level("by 255 without a fade", bus, 154);
        Check.fadesTo("by 255 without a fade", bus, LampBus.NONE);
        bus.send(0xFE, 254);
        Check.fadesTo("by 254", bus, 254);
    }

    private static void lowestAndHighestCommand() {
        LampBus bus = Check.lamp(1, 254, 4);
        bus.send(0xFE, 54);
        Check.due("send(FF, FF)", bus.send(0xFF, 255), LampBus.NONE);
        Check.fadesTo("by the command FF", bus, 54);
        bus.send(0xFF, 0);
        Check.level("by the command 0", bus, 0);
        Check.fadesTo("by the command 0", bus, LampBus.NONE);
    }

    private static void noAnswer() {
        Check.due("a query without gears", new LampBus().send(0xFF, 0x91), LampBus.NONE);
        LampBus bus = Check.busOf(16);
        bus.send(0xFE, 0);
        Check.due("a query to which all say nothing", bus.send(0xFF, 0x93), LampBus.NONE);
        Check.due("a query to an address of none", bus.send(1, 0x91), LampBus.NONE);
    }

    private static void oneByte() {
        LampBus one = Check.busOf(1);
        Check.due("one gear's lowest byte", one.send(0xFF, 0x98), 0);
        Check.due("one gear's highest byte", one.send(0xFF, 0x91), 255);
        LampBus bus = Check.busOf(16);
        Check.due("sixteen times the lowest byte", bus.send(0xFF, 0x98), 0);
        Check.due("sixteen times the highest byte", bus.send(0xFF, 0x91), 255);
        Check.giveShortAddresses(bus, 16);
        bus.send(0xFE, 0);
        bus.send(30, 9);
        Check.due("only the last says something", bus.send(0xFF, 0x93), 255);
        bus.send(30, 0);
        bus.send(0, 9);
        Check.due("only the first says something", bus.send(0xFF, 0x93), 255);
    }

    private static void differentBytes() {
        int[][] cases = {{1, 2, 2}, {2, 2, 1}, {1, 2, 1}, {1, 2, 3}, {0, 254, 254}, {254, 0, 0}};
        for (int[] levels : cases) {
            LampBus bus = Check.busOf(3);
            Check.giveShortAddresses(bus, 3);
            for (int gear = 0; gear < 3; gear++) {
                bus.send(2 * gear, levels[gear]);
            }
            String call = "the levels " + levels[0] + ", " + levels[1] + ", " + levels[2];
            Check.due(call, bus.send(0xFF, 0xA0), LampBus.CLASH);
        }
        LampBus bus = Check.busOf(16);
        Check.giveShortAddresses(bus, 16);
        bus.send(30, 253);
        Check.due("the last of sixteen differs", bus.send(0xFF, 0xA0), LampBus.CLASH);
    }
}
