/** The promises but that of commission(), and how long an object lasts. */
final class PromiseEdges {
    private static final int[] FAR_OUT = {Integer.MIN_VALUE, Integer.MAX_VALUE};

    private PromiseEdges() {
    }

    static void hold(Document document) {
        document.leaveOut("A bus of lamps: frames of two bytes to one, to groups, or to all, answers of one byte that may "
                + "fall on one another; levels with bounds, fades by ticks, scenes, groups, settings that must be sent "
                + "twice, and addresses that are given out by searching for random numbers bit by bit.");
        document.hold("An object is used for at most 512 calls after it has been made; what later calls answer is free.",
                PromiseEdges::lastCallBehindManyFrames, PromiseEdges::lastCallBehindManyTicks);
        document.hold("No gears.", PromiseEdges::empty);
        document.hold("One more gear: which one.", PromiseEdges::firstToLastGear);
        document.hold("BAD: there are 16.", PromiseEdges::oneGearTooMany);
        document.hold("A gear's next random number, 24 bits.", PromiseEdges::lowestAndHighestGiven);
        document.hold("False: none such.", PromiseEdges::giveToNoGear, PromiseEdges::giveNoRandom);
        document.hold("A frame: the answer, NONE, or CLASH.", PromiseEdges::eachKindOfAnswer);
        document.hold("BAD: not two bytes.", PromiseEdges::notTwoBytes);
        document.hold("So many ticks, 1 .. 2,000, go by: how many gears fade then.",
                PromiseEdges::fewestAndMostTicks, PromiseEdges::noneAndAllFade);
        document.hold("BAD: another number.", PromiseEdges::anotherNumberOfTicks);
        document.hold("Power comes again: all fades end, each gear has its POWER level (0, or brought within LEAST and "
                + "MOST; 255: what it had); SEARCH, DTR, initialised, withdrawn as at first.",
                PromiseEdges::powerLevels, PromiseEdges::powerLevelAsItWas, PromiseEdges::powerEndsAllFades,
                PromiseEdges::powerForgets, PromiseEdges::powerKeeps);
        document.hold("The bus fails: each gear GOES TO its FAIL level (with a fade, brought within; not for 255).",
                PromiseEdges::failLevels, PromiseEdges::failWithFade, PromiseEdges::failAtOnce,
                PromiseEdges::notForFail255);
        document.hold("Of a gear: 0 level, 1 LEAST, 2 MOST, 3 POWER, 4 FAIL, 5 FADE, 6 RATE, 7 groups, 8 short address, "
                + "9 RANDOM, 10 DTR, 11 SEARCH, 12 initialised and 13 withdrawn (1 or 0), 14 the level it fades to "
                + "(NONE), 16 + s scene s.",
                PromiseEdges::eachValue, PromiseEdges::whatItFadesTo);
        document.hold("BAD: none such.", PromiseEdges::toldOfNoGear, PromiseEdges::toldNoValue);
        document.hold("How many frames there were in all.", PromiseEdges::framesCounted, PromiseEdges::framesNotCounted);
    }

    private static void lastCallBehindManyFrames() {
        LampBus bus = Check.busOf(16);
        for (int gear = 0; gear < 16; gear++) {
            bus.give(gear, gear);
        }
        int rounds = 512 - 16 - 16 - 1;
        for (int i = 0; i < rounds; i++) {
            Check.due("commission(0) number " + i, bus.commission(0), 16);
        }
        Check.due("frames() as the 512th call", bus.frames(), rounds * (4 + 16 * 105 + 4 + 1));
    }

    private static void lastCallBehindManyTicks() {
        LampBus bus = Check.lamp(1, 254, 15);
        bus.send(0xFE, 0);
        int ticks = 512 - 10 - 1 - 1;
        for (int i = 0; i < ticks; i++) {
            Check.due("tick(1) number " + i, bus.tick(1), 1);
        }
        Check.level("as the 512th call", bus, 254 - 254 * ticks / 905);
    }

    private static void empty() {
        LampBus bus = new LampBus();
        Check.due("told(0, 0)", bus.told(0, 0), LampBus.BAD);
        Check.due("give(0, 0)", bus.give(0, 0), false);
        Check.due("tick(1)", bus.tick(1), 0);
        Check.due("tick(2000)", bus.tick(2000), 0);
        Check.due("frames()", bus.frames(), 0);
        Check.due("compares()", bus.compares(), 0);
        bus.power();
        bus.fail();
        Check.due("send(FF, 91)", bus.send(0xFF, 0x91), LampBus.NONE);
        Check.due("commission(0)", bus.commission(0), 0);
        Check.due("gear()", bus.gear(), 0);
    }

    private static void firstToLastGear() {
        LampBus bus = new LampBus();
        for (int i = 0; i < 16; i++) {
            Check.due("told of gear " + i + " before it comes", bus.told(i, 0), LampBus.BAD);
            Check.due("gear() behind " + i, bus.gear(), i);
            Check.due("told of gear " + i, bus.told(i, 0), 254);
        }
        Check.due("gear() of another bus", new LampBus().gear(), 0);
    }

    private static void oneGearTooMany() {
        LampBus bus = Check.busOf(16);
        bus.send(0xFE, 100);
        for (int i = 0; i < 3; i++) {
            Check.due("gear() with 16 there", bus.gear(), LampBus.BAD);
        }
        Check.due("told(16, 0)", bus.told(16, 0), LampBus.BAD);
        Check.due("give(16, 0)", bus.give(16, 0), false);
        Check.due("the level of gear 0", bus.told(0, 0), 100);
        Check.due("the level of gear 15", bus.told(15, 0), 100);
        Check.due("the level of all", bus.send(0xFF, 0xA0), 100);
    }

    private static void lowestAndHighestGiven() {
        int[] randoms = {0, 1, 0x7FFFFF, 0x800000, 0xFFFFFE, 0xFFFFFF};
        for (int random : randoms) {
            LampBus bus = Check.busOf(16);
            bus.give(0, 0x123456);
            Check.due("give(0, " + random + ")", bus.give(0, random), true);
            Check.due("give(15, " + random + ")", bus.give(15, random), true);
            Check.due("RANDOM of 15 before A7", bus.told(15, 9), 0xFFFFFF);
            Check.sendTwice(bus, 0xA5, 0);
            Check.sendTwice(bus, 0xA7, 0);
            Check.due("RANDOM of 0", bus.told(0, 9), random);
            Check.due("RANDOM of 14", bus.told(14, 9), 0);
            Check.due("RANDOM of 15", bus.told(15, 9), random);
        }
    }

    private static void giveToNoGear() {
        int[] gears = {-1, 2, 15, 16, FAR_OUT[0], FAR_OUT[1]};
        for (int gear : gears) {
            LampBus bus = Busy.bus();
            Check.due("give(" + gear + ", 1)", bus.give(gear, 1), false);
            Busy.isAsBefore("give(" + gear + ", 1)", bus);
        }
    }

    private static void giveNoRandom() {
        int[] randoms = {-1, 0x1000000, 0x1000001, FAR_OUT[0], FAR_OUT[1]};
        for (int random : randoms) {
            LampBus bus = Busy.bus();
            Check.due("give(0, " + random + ")", bus.give(0, random), false);
            Check.due("give(1, " + random + ")", bus.give(1, random), false);
            Busy.isAsBefore("give with " + random, bus);
        }
    }

    private static void eachKindOfAnswer() {
        LampBus bus = Check.busOf(2);
        Check.giveShortAddresses(bus, 2);
        bus.send(0, 0);
        Check.due("the lowest answer", bus.send(1, 0xA0), 0);
        Check.due("the highest answer", bus.send(0xFF, 0x91), 255);
        Check.due("no answer", bus.send(1, 0x93), LampBus.NONE);
        Check.due("two answers", bus.send(0xFF, 0xA0), LampBus.CLASH);
        Check.due("a frame that is no query", bus.send(0xFF, 5), LampBus.NONE);
    }

    private static void notTwoBytes() {
        int[] wrong = {-1, 256, 257, 0xFF + 256, -256, FAR_OUT[0], FAR_OUT[1]};
        for (int value : wrong) {
            LampBus bus = Busy.bus();
            Check.due("send(" + value + ", 0)", bus.send(value, 0), LampBus.BAD);
            Check.due("send(" + value + ", 2E)", bus.send(value, 0x2E), LampBus.BAD);
            Check.due("send(FF, " + value + ")", bus.send(0xFF, value), LampBus.BAD);
            Check.due("send(FE, " + value + ")", bus.send(0xFE, value), LampBus.BAD);
            Check.due("send(A3, " + value + ")", bus.send(0xA3, value), LampBus.BAD);
            Check.due("send(" + value + ", " + value + ")", bus.send(value, value), LampBus.BAD);
            Busy.isAsBefore("send with " + value, bus);
        }
    }

    private static void fewestAndMostTicks() {
        LampBus bus = Check.lamp(1, 254, 15);
        bus.send(0xFE, 1);
        Check.due("tick(1)", bus.tick(1), 1);
        Check.due("tick(903)", bus.tick(903), 1);
        Check.due("tick(1) as the last of 905", bus.tick(1), 0);
        bus.send(0xFE, 254);
        Check.due("tick(1999)", bus.tick(1999), 0);
        Check.level("behind tick(1999)", bus, 254);
        bus.send(0xFE, 1);
        Check.due("tick(2000)", bus.tick(2000), 0);
        Check.level("behind tick(2000)", bus, 1);
    }

    private static void noneAndAllFade() {
        LampBus bus = Check.busOf(16);
        Check.due("none fades", bus.tick(1), 0);
        Check.set(bus, 0xFF, 0x2E, 1);
        bus.send(0xFE, 10);
        Check.due("all sixteen fade", bus.tick(6), 16);
        Check.due("none fades any more", bus.tick(1), 0);
    }

    private static void anotherNumberOfTicks() {
        int[] wrong = {0, -1, -2000, 2001, 2002, FAR_OUT[0], FAR_OUT[1]};
        for (int n : wrong) {
            LampBus bus = Busy.bus();
            Check.due("tick(" + n + ")", bus.tick(n), LampBus.BAD);
            Busy.isAsBefore("tick(" + n + ")", bus);
        }
    }

    private static void powerLevels() {
        int[][] due = {{0, 0}, {1, 50}, {49, 50}, {50, 50}, {51, 51}, {199, 199}, {200, 200}, {201, 200}, {254, 200}};
        for (int[] pair : due) {
            LampBus bus = Check.lampAt(50, 200, 100);
            Check.set(bus, 0xFF, 0x2D, pair[0]);
            Check.set(bus, 0xFF, 0x2E, 15);
            bus.power();
            Check.level("by POWER " + pair[0], bus, pair[1]);
            Check.fadesTo("by POWER " + pair[0], bus, LampBus.NONE);
        }
    }

    private static void powerLevelAsItWas() {
        int[] levels = {0, 50, 100, 200};
        for (int level : levels) {
            LampBus bus = Check.lampAt(50, 200, level);
            Check.set(bus, 0xFF, 0x2D, 255);
            bus.power();
            Check.level("by POWER 255 from " + level, bus, level);
        }
        LampBus bus = Check.lamp(1, 254, 4);
        Check.set(bus, 0xFF, 0x2D, 255);
        bus.send(0xFE, 54);
        bus.tick(10);
        bus.power();
        Check.level("by POWER 255 in a fade", bus, 154);
        Check.fadesTo("by POWER 255 in a fade", bus, LampBus.NONE);
        Check.due("tick(10) behind it", bus.tick(10), 0);
        Check.level("some time behind it", bus, 154);
    }

    private static void powerEndsAllFades() {
        LampBus bus = Check.busOf(16);
        Check.set(bus, 0xFF, 0x2E, 15);
        bus.send(0xFE, 10);
        Check.due("gears that fade", bus.tick(1), 16);
        bus.power();
        Check.due("gears that fade behind power()", bus.tick(1), 0);
        Check.due("the level of 0", bus.told(0, 0), 254);
        Check.due("the level of 15", bus.told(15, 0), 254);
    }

    private static void powerForgets() {
        LampBus bus = Check.searched(5, 6);
        bus.send(0xA3, 77);
        Check.setSearch(bus, 5);
        bus.send(0xAB, 0);
        bus.power();
        int[][] due = {{10, 0}, {11, 0xFFFFFF}, {12, 0}, {13, 0}};
        for (int gear = 0; gear < 2; gear++) {
            for (int[] pair : due) {
                String told = "told(" + gear + ", " + pair[0] + ") behind power()";
                Check.due(told, bus.told(gear, pair[0]), pair[1]);
            }
        }
    }

    private static void powerKeeps() {
        LampBus bus = Busy.bus();
        bus.power();
        int[] want = {5, 3, 220, 5, 4, 4, 6, 0x200, 5, 0x10};
        for (int what = 0; what < want.length; what++) {
            Check.due("told(0, " + what + ") behind power()", bus.told(0, what), want[what]);
        }
        Check.due("scene 3 behind power()", bus.told(0, 19), 7);
        Check.sendTwice(bus, 0xA5, 0);
        Check.sendTwice(bus, 0xA7, 0);
        Check.due("the next random number behind power()", bus.told(1, 9), 0x20);
    }

    private static void failLevels() {
        int[][] due = {{0, 0}, {1, 50}, {49, 50}, {50, 50}, {51, 51}, {199, 199}, {200, 200}, {201, 200}, {254, 200}};
        for (int[] pair : due) {
            LampBus bus = Check.lampAt(50, 200, 100);
            Check.set(bus, 0xFF, 0x2C, pair[0]);
            bus.fail();
            Check.level("by FAIL " + pair[0], bus, pair[1]);
        }
    }

    private static void failWithFade() {
        int[][] due = {{0, 0}, {1, 50}, {49, 50}, {50, 50}, {200, 200}, {201, 200}, {254, 200}};
        for (int[] pair : due) {
            LampBus bus = Check.lampAt(50, 200, 100);
            Check.set(bus, 0xFF, 0x2C, pair[0]);
            Check.set(bus, 0xFF, 0x2E, 1);
            bus.fail();
            Check.level("before the first tick of FAIL " + pair[0], bus, 100);
            Check.fadesTo("by FAIL " + pair[0], bus, pair[1]);
            Check.due("6 of 7 ticks", bus.tick(6), 1);
            Check.due("7 of 7 ticks", bus.tick(1), 0);
            Check.level("behind the fade to FAIL " + pair[0], bus, pair[1]);
        }
    }

    private static void failAtOnce() {
        LampBus dark = Check.lampAt(50, 200, 0);
        Check.set(dark, 0xFF, 0x2E, 15);
        dark.fail();
        Check.level("by FAIL 254 from 0", dark, 200);
        LampBus least = Check.lampAt(50, 200, 50);
        Check.set(least, 0xFF, 0x2C, 0);
        Check.set(least, 0xFF, 0x2E, 15);
        least.fail();
        Check.level("by FAIL 0 from LEAST", least, 0);
    }

    private static void notForFail255() {
        int[] levels = {0, 50, 100, 200};
        for (int level : levels) {
            LampBus bus = Check.lampAt(50, 200, level);
            Check.set(bus, 0xFF, 0x2C, 255);
            bus.fail();
            Check.level("by FAIL 255 from " + level, bus, level);
        }
        LampBus bus = Check.lamp(1, 254, 4);
        Check.set(bus, 0xFF, 0x2C, 255);
        bus.send(0xFE, 54);
        bus.tick(10);
        bus.fail();
        Check.fadesTo("by FAIL 255 in a fade", bus, 54);
        Check.due("9 ticks behind it", bus.tick(9), 1);
        Check.due("10 ticks behind it", bus.tick(1), 0);
        Check.level("in the end", bus, 54);
    }

    private static void eachValue() {
        LampBus bus = Busy.bus();
        int[] of0 = {195, 3, 220, 5, 4, 4, 6, 0x200, 5, 0x10, 9, 0x10, 1, 1, 120};
        int[] of1 = {195, 3, 220, 5, 4, 4, 6, 0x200, 6, 0x20, 9, 0x10, 1, 0, 120};
        for (int what = 0; what < 15; what++) {
            Check.due("told(0, " + what + ")", bus.told(0, what), of0[what]);
            Check.due("told(1, " + what + ")", bus.told(1, what), of1[what]);
        }
        for (int scene = 0; scene < 16; scene++) {
            Check.set(bus, 0xFF, 0x40 + scene, 100 + scene);
        }
        Check.due("told(0, 16)", bus.told(0, 16), 100);
        Check.due("told(0, 31)", bus.told(0, 31), 115);
        Check.due("told(1, 16)", bus.told(1, 16), 100);
        Check.due("told(1, 31)", bus.told(1, 31), 115);
    }

    private static void whatItFadesTo() {
        LampBus bus = Check.lamp(1, 254, 1);
        Check.fadesTo("without a fade", bus, LampBus.NONE);
        bus.send(0xFE, 0);
        Check.fadesTo("before the first tick", bus, 0);
        bus.tick(6);
        Check.fadesTo("before the last tick", bus, 0);
        bus.tick(1);
        Check.fadesTo("behind the last tick", bus, LampBus.NONE);
    }

    private static void toldOfNoGear() {
        int[] gears = {-1, 2, 15, 16, FAR_OUT[0], FAR_OUT[1]};
        for (int gear : gears) {
            LampBus bus = Busy.bus();
            for (int what = 0; what < 32; what++) {
                Check.due("told(" + gear + ", " + what + ")", bus.told(gear, what), LampBus.BAD);
            }
            Busy.isAsBefore("told(" + gear + ", ...)", bus);
        }
    }

    private static void toldNoValue() {
        int[] whats = {-1, 15, 32, 33, 255, FAR_OUT[0], FAR_OUT[1]};
        for (int what : whats) {
            LampBus bus = Busy.bus();
            Check.due("told(0, " + what + ")", bus.told(0, what), LampBus.BAD);
            Check.due("told(1, " + what + ")", bus.told(1, what), LampBus.BAD);
            Busy.isAsBefore("told(..., " + what + ")", bus);
        }
        Check.due("told(-1, -1)", Check.busOf(1).told(-1, -1), LampBus.BAD);
    }

    private static void framesCounted() {
        LampBus bus = new LampBus();
        Check.due("frames() before the first", bus.frames(), 0);
        bus.send(0, 0);
        Check.due("frames() behind the first, to no gear", bus.frames(), 1);
        bus.send(0xFC, 0);
        Check.due("frames() behind one without meaning", bus.frames(), 2);
        Check.sendTwice(bus, 0xFF, 0x20);
        Check.due("frames() behind one that was sent twice", bus.frames(), 4);
        bus.commission(0);
        Check.due("frames() behind commission() without gears", bus.frames(), 4 + 4 + 4 + 1);
    }

    private static void framesNotCounted() {
        LampBus bus = Check.busOf(1);
        bus.send(-1, 0);
        bus.send(0, 256);
        bus.commission(-1);
        bus.commission(64);
        bus.tick(1);
        bus.tick(0);
        bus.power();
        bus.fail();
        bus.give(0, 1);
        bus.told(0, 0);
        bus.compares();
        Check.due("frames() behind what sends none", bus.frames(), 0);
    }
}
