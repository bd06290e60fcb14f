/** Promises 8 and 9: commission() and compares(). */
final class CommissionEdges {
    /** Of one address: 25 times SEARCH and A9, SEARCH at last, B7 and AB. */
    private static final int FRAMES = 25 * 4 + 3 + 2;

    private CommissionEdges() {
    }

    static void hold(Document document) {
        document.hold("Gives out short addresses from first on, by frames as above: A5 0 and A7 0 twice each; then, as "
                + "long as A9 with SEARCH FFFFFF is not NONE: the least RANDOM is looked for from the highest bit on, "
                + "with A9 for each of 24 bits (a bit stays 1 in SEARCH, if NONE comes with 0 there and 1s below; SEARCH "
                + "is that number then), B7, AB; in the end A1.",
                CommissionEdges::withoutGears, CommissionEdges::lowestAndHighestRandom,
                CommissionEdges::everyBitOfRandom, CommissionEdges::behindOneA5, CommissionEdges::stateInTheEnd,
                CommissionEdges::withdrawnBefore, CommissionEdges::isAnotherFrame);
        document.hold("How many it gave out.", CommissionEdges::noneToSixteen, CommissionEdges::sameRandom);
        document.hold("It stops (with A1) when there is no address (63 was given), or 20 were.",
                CommissionEdges::onlyTheLastAddress, CommissionEdges::justEnoughAddresses,
                CommissionEdges::oneAddressTooFew, CommissionEdges::asManyAsGears);
        document.hold("BAD: first is not 0 .. 63.", CommissionEdges::noFirst);
        document.hold("How many frames A9 there were in the last commission().",
                CommissionEdges::comparesBeforeAny, CommissionEdges::comparesOfTheLast,
                CommissionEdges::comparesWithoutRefused);
    }

    /** Gears with these next random numbers, on which nothing was sent yet. */
    private static LampBus given(int... randoms) {
        LampBus bus = Check.busOf(randoms.length);
        for (int i = 0; i < randoms.length; i++) {
            bus.give(i, randoms[i]);
        }
        return bus;
    }

    private static LampBus rising(int gears) {
        LampBus bus = Check.busOf(gears);
        for (int i = 0; i < gears; i++) {
            bus.give(i, 0x0F0F0F * (i + 1));
        }
        return bus;
    }

    private static void shorts(String when, LampBus bus, int... want) {
        for (int gear = 0; gear < want.length; gear++) {
            Check.due("the address of " + gear + ", " + when, bus.told(gear, 8), want[gear]);
        }
    }

    private static void withoutGears() {
        LampBus bus = new LampBus();
        Check.due("commission(0)", bus.commission(0), 0);
        Check.due("compares()", bus.compares(), 1);
        Check.due("frames()", bus.frames(), 4 + 4 + 1);
        Check.due("commission(63)", bus.commission(63), 0);
        Check.due("compares() again", bus.compares(), 1);
    }

    private static void lowestAndHighestRandom() {
        LampBus bus = given(0xFFFFFF, 0, 0xFFFFFE, 1);
        Check.due("commission(0)", bus.commission(0), 4);
        shorts("by the random numbers", bus, 3, 0, 2, 1);
        LampBus highest = given(0xFFFFFF);
        Check.due("commission(9) of FFFFFF alone", highest.commission(9), 1);
        shorts("of FFFFFF alone", highest, 9);
        LampBus lowest = given(0);
        Check.due("commission(9) of 0 alone", lowest.commission(9), 1);
        shorts("of 0 alone", lowest, 9);
    }

    /** The number with this bit alone, and the number one below it: each is found, in this order. */
    private static void everyBitOfRandom() {
        for (int bit = 1; bit < 24; bit++) {
            LampBus bus = given(1 << bit, (1 << bit) - 1);
            Check.due("commission(0) for bit " + bit, bus.commission(0), 2);
            shorts("for bit " + bit, bus, 1, 0);
            Check.due("withdrawn for bit " + bit, bus.told(0, 13) + bus.told(1, 13), 2);
        }
    }

    /** The first A5 of commission() is the second of two then, and its own second the first of two. */
    private static void behindOneA5() {
        LampBus bus = given(5, 6);
        bus.send(0xA5, 0);
        Check.due("commission(0) behind one A5", bus.commission(0), 2);
        shorts("behind one A5", bus, 0, 1);
        Check.due("frames()", bus.frames(), 1 + 4 + 2 * FRAMES + 4 + 1);
    }

    private static void stateInTheEnd() {
        LampBus bus = given(5, 6);
        bus.send(0xA3, 77);
        bus.commission(0);
        int[] want = {77, 0xFFFFFF, 0, 1};
        for (int what = 10; what < 14; what++) {
            Check.due("told(0, " + what + ") in the end", bus.told(0, what), want[what - 10]);
            Check.due("told(1, " + what + ") in the end", bus.told(1, what), want[what - 10]);
        }
        Check.due("RANDOM of 0", bus.told(0, 9), 5);
        Check.due("RANDOM of 1", bus.told(1, 9), 6);
    }

    private static void withdrawnBefore() {
        LampBus bus = given(5, 6);
        bus.commission(0);
        bus.give(0, 9);
        Check.due("commission(10) of those withdrawn before", bus.commission(10), 2);
        shorts("the second time", bus, 11, 10);
    }

    /** Its last frame is A1 0, and so the first of two before it is none any more. */
    private static void isAnotherFrame() {
        LampBus bus = given(5);
        bus.send(0xA3, 9);
        bus.send(0xFF, 0x2E);
        bus.commission(0);
        bus.send(0xFF, 0x2E);
        Check.due("FADE with a commission() between", bus.told(0, 5), 0);
    }

    private static void noneToSixteen() {
        for (int gears = 0; gears <= 16; gears++) {
            LampBus bus = rising(gears);
            Check.due("commission(0) of " + gears, bus.commission(0), gears);
            for (int i = 0; i < gears; i++) {
                Check.due("the address of " + i, bus.told(i, 8), i);
            }
        }
    }

    private static void sameRandom() {
        LampBus bus = given(7, 5, 7, 7);
        Check.due("commission(0) of three that are the same and one", bus.commission(0), 2);
        shorts("where three are the same", bus, 1, 0, 1, 1);
        LampBus all = Check.busOf(16);
        Check.due("commission(63) of sixteen that are the same", all.commission(63), 1);
        Check.due("the address of 0", all.told(0, 8), 63);
        Check.due("the address of 15", all.told(15, 8), 63);
    }

    private static void onlyTheLastAddress() {
        LampBus bus = given(5, 6);
        Check.due("commission(63) of two", bus.commission(63), 1);
        shorts("by commission(63)", bus, 63, 255);
        Check.due("compares()", bus.compares(), 25);
        Check.due("frames()", bus.frames(), 4 + FRAMES + 1);
        Check.due("SEARCH is the number that was found", bus.told(1, 11), 5);
        Check.due("initialised behind A1", bus.told(0, 12) + bus.told(1, 12), 0);
        Check.due("the one without address is not withdrawn", bus.told(1, 13), 0);
    }

    private static void justEnoughAddresses() {
        LampBus bus = rising(16);
        Check.due("commission(48) of sixteen", bus.commission(48), 16);
        Check.due("the address of 0", bus.told(0, 8), 48);
        Check.due("the address of 15", bus.told(15, 8), 63);
        Check.due("compares(), as 63 was given", bus.compares(), 16 * 25);
        Check.due("frames(), as 63 was given", bus.frames(), 4 + 16 * FRAMES + 1);
        LampBus more = rising(16);
        Check.due("commission(47) of sixteen", more.commission(47), 16);
        Check.due("the address of 15", more.told(15, 8), 62);
        Check.due("compares(), as 62 was given", more.compares(), 16 * 25 + 1);
    }

    private static void oneAddressTooFew() {
        LampBus bus = rising(16);
        Check.due("commission(49) of sixteen", bus.commission(49), 15);
        Check.due("the address of 14", bus.told(14, 8), 63);
        Check.due("the address of 15", bus.told(15, 8), 255);
        Check.due("compares()", bus.compares(), 15 * 25);
        for (int gear = 0; gear < 16; gear++) {
            Check.due("gear " + gear + " initialised", bus.told(gear, 12), 0);
        }
    }

    /** No more than 16 can be given out, as there are no more gears: the stop at 20 must not come before. */
    private static void asManyAsGears() {
        LampBus bus = rising(16);
        Check.due("commission(0) of sixteen", bus.commission(0), 16);
        Check.due("compares(), the last of which is NONE", bus.compares(), 16 * 25 + 1);
        Check.due("the address of 15", bus.told(15, 8), 15);
    }

    private static void noFirst() {
        int[] wrong = {-1, 64, 65, 255, -64, Integer.MIN_VALUE, Integer.MAX_VALUE};
        for (int first : wrong) {
            LampBus bus = Busy.bus();
            Check.due("commission(" + first + ")", bus.commission(first), LampBus.BAD);
            Busy.isAsBefore("commission(" + first + ")", bus);
        }
        Check.due("commission(0)", given(5).commission(0), 1);
        Check.due("commission(63)", given(5).commission(63), 1);
    }

    private static void comparesBeforeAny() {
        LampBus bus = Check.searched(5);
        bus.send(0xA9, 0);
        Check.due("compares() without a commission()", bus.compares(), 0);
    }

    private static void comparesOfTheLast() {
        LampBus bus = rising(16);
        bus.commission(0);
        Check.due("compares() of sixteen", bus.compares(), 401);
        bus.commission(63);
        Check.due("compares() of the second alone", bus.compares(), 25);
        bus.send(0xA9, 0);
        Check.due("compares() behind an A9 of send()", bus.compares(), 25);
        bus.power();
        Check.due("compares() behind power()", bus.compares(), 25);
    }

    private static void comparesWithoutRefused() {
        LampBus bus = given(5);
        bus.commission(0);
        bus.commission(64);
        bus.commission(-1);
        Check.due("compares() behind refused ones", bus.compares(), 26);
    }
}
