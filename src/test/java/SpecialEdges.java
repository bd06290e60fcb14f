/** Terms: the special frames. */
final class SpecialEdges {
    private SpecialEdges() {
    }

    static void hold(Document document) {
        document.hold("SPECIAL, to all: A1 not initialised any more.",
                SpecialEdges::firstAndLastOfAll, SpecialEdges::terminate);
        document.hold("A3 DTR becomes b.", SpecialEdges::dtr);
        document.hold("A5 twice: initialised, not withdrawn: with b 0 all; FF those without short address; "
                + "odd and below 80 the one with (b - 1) / 2.",
                SpecialEdges::initialiseOnce, SpecialEdges::whomToInitialise, SpecialEdges::notWithdrawn,
                SpecialEdges::initialiseWhereAllHaveShort);
        document.hold("Of those that are initialised: A7 twice: RANDOM becomes the next random number.",
                SpecialEdges::randomiseOnce, SpecialEdges::randomiseNotInitialised,
                SpecialEdges::lowestAndHighestRandom);
        document.hold("Of these, but not those that are withdrawn: A9 YES, if RANDOM is not above SEARCH.",
                SpecialEdges::compareAtTheEdge, SpecialEdges::compareAtTheEnds, SpecialEdges::compareOfOthers);
        document.hold("AB withdrawn, if RANDOM is SEARCH.",
                SpecialEdges::withdrawAtTheEdge, SpecialEdges::withdrawOfOthers);
        document.hold("B7 SHORT as 80 above with b for DTR, B9 YES, if SHORT is (b - 1) / 2 (b odd and below 80), "
                + "BB SHORT (as 2 SHORT + 1; 255 for none): each if RANDOM is SEARCH.",
                SpecialEdges::programShort, SpecialEdges::verifyShort, SpecialEdges::queryShort,
                SpecialEdges::shortAtTheEdge, SpecialEdges::shortOfOthers);
        document.hold("B1, B3, B5 the highest, middle, lowest byte of SEARCH (of all, initialised or not).",
                SpecialEdges::bytesOfSearch, SpecialEdges::searchOfOthers);
    }

    private static void firstAndLastOfAll() {
        LampBus bus = Check.busOf(16);
        Check.sendTwice(bus, 0xA5, 0);
        Check.due("gear 0 initialised", bus.told(0, 12), 1);
        Check.due("gear 15 initialised", bus.told(15, 12), 1);
        bus.send(0xA1, 0);
        Check.due("gear 0 behind A1", bus.told(0, 12), 0);
        Check.due("gear 15 behind A1", bus.told(15, 12), 0);
    }

    private static void terminate() {
        LampBus bus = Check.searched(5);
        Check.setSearch(bus, 5);
        bus.send(0xAB, 0);
        Check.due("the answer to A1", bus.send(0xA1, 0), LampBus.NONE);
        Check.due("initialised behind A1", bus.told(0, 12), 0);
        Check.due("withdrawn behind A1", bus.told(0, 13), 1);
        bus.send(0xA1, 0);
        Check.due("initialised behind A1 once more", bus.told(0, 12), 0);
    }

    private static void dtr() {
        LampBus bus = Check.busOf(16);
        int[] bytes = {0, 255, 1, 254};
        for (int value : bytes) {
            Check.due("the answer to A3", bus.send(0xA3, value), LampBus.NONE);
            Check.due("DTR of 0", bus.told(0, 10), value);
            Check.due("DTR of 15", bus.told(15, 10), value);
        }
    }

    private static void initialiseOnce() {
        LampBus bus = Check.busOf(1);
        bus.send(0xA5, 0);
        Check.due("initialised by one A5", bus.told(0, 12), 0);
        bus.tick(1);
        bus.send(0xA5, 0);
        Check.due("initialised by A5 with a tick between", bus.told(0, 12), 0);
        bus.send(0xA5, 255);
        Check.due("initialised by A5 with another b", bus.told(0, 12), 0);
        bus.send(0xA5, 255);
        Check.due("initialised by A5 twice", bus.told(0, 12), 1);
    }

    /** Gears with the short addresses 0, 63 and none; which are meant by each b. */
    private static void whomToInitialise() {
        for (int b = 0; b <= 255; b++) {
            LampBus bus = Check.busOf(3);
            Check.giveShortAddresses(bus, 3);
            Check.set(bus, 3, 0x80, 127);
            Check.set(bus, 5, 0x80, 255);
            Check.sendTwice(bus, 0xA5, b);
            Check.due("the gear with 0 by b = " + b, bus.told(0, 12), b == 0 || b == 1 ? 1 : 0);
            Check.due("the gear with 63 by b = " + b, bus.told(1, 12), b == 0 || b == 127 ? 1 : 0);
            Check.due("the gear with none by b = " + b, bus.told(2, 12), b == 0 || b == 255 ? 1 : 0);
        }
    }

    private static void notWithdrawn() {
        LampBus bus = Check.searched(5, 6);
        Check.setSearch(bus, 5);
        bus.send(0xB7, 127);
        bus.send(0xAB, 0);
        Check.setSearch(bus, 6);
        bus.send(0xAB, 0);
        bus.send(0xA5, 127);
        Check.due("withdrawn behind one A5", bus.told(0, 13), 1);
        bus.send(0xA5, 127);
        Check.due("withdrawn behind A5 to it", bus.told(0, 13), 0);
        Check.due("withdrawn behind A5 to another", bus.told(1, 13), 1);
        Check.due("initialised behind A5 to another", bus.told(1, 12), 1);
    }

    private static void initialiseWhereAllHaveShort() {
        LampBus bus = Check.busOf(2);
        Check.giveShortAddresses(bus, 2);
        Check.sendTwice(bus, 0xA5, 255);
        Check.due("initialised by FF with an address", bus.told(0, 12), 0);
        Check.set(bus, 0xFF, 0x80, 1);
        Check.sendTwice(bus, 0xA5, 1);
        Check.due("the first of two with one address", bus.told(0, 12), 1);
        Check.due("the second of two with one address", bus.told(1, 12), 1);
    }

    private static void randomiseOnce() {
        LampBus bus = Check.busOf(1);
        bus.give(0, 5);
        Check.sendTwice(bus, 0xA5, 0);
        bus.send(0xA7, 0);
        Check.due("RANDOM by one A7", bus.told(0, 9), 0xFFFFFF);
        bus.tick(1);
        bus.send(0xA7, 0);
        Check.due("RANDOM by A7 with a tick between", bus.told(0, 9), 0xFFFFFF);
        bus.send(0xA7, 0);
        Check.due("RANDOM by A7 twice", bus.told(0, 9), 5);
        bus.give(0, 6);
        bus.send(0xA7, 0);
        Check.due("RANDOM by a third A7", bus.told(0, 9), 5);
    }

    private static void randomiseNotInitialised() {
        LampBus bus = Check.busOf(2);
        Check.giveShortAddresses(bus, 2);
        bus.give(0, 70);
        bus.give(1, 80);
        Check.sendTwice(bus, 0xA7, 0);
        Check.due("RANDOM without A5", bus.told(0, 9), 0);
        Check.sendTwice(bus, 0xA5, 3);
        Check.setSearch(bus, 1);
        bus.send(0xAB, 0);
        Check.sendTwice(bus, 0xA7, 0);
        Check.due("RANDOM of the one not initialised", bus.told(0, 9), 0);
        Check.due("RANDOM of the one initialised and withdrawn", bus.told(1, 9), 80);
    }

    private static void lowestAndHighestRandom() {
        Check.due("RANDOM by 0", Check.searched(0).told(0, 9), 0);
        Check.due("RANDOM by FFFFFF", Check.searched(0xFFFFFF).told(0, 9), 0xFFFFFF);
        LampBus bus = Check.searched(7);
        Check.sendTwice(bus, 0xFF, 0x20);
        Check.sendTwice(bus, 0xA7, 0);
        Check.due("RANDOM by the same next number again", bus.told(0, 9), 7);
    }

    private static void compares(int random, int search, int want) {
        LampBus bus = Check.searched(random);
        Check.setSearch(bus, search);
        Check.due("A9 with RANDOM " + random + ", SEARCH " + search, bus.send(0xA9, 0), want);
    }

    private static void compareAtTheEdge() {
        int[] randoms = {1, 0xFF, 0x100, 0xFFFF, 0x10000, 0x123456, 0x7FFFFF, 0x800000, 0xFFFFFE};
        for (int random : randoms) {
            compares(random, random - 1, LampBus.NONE);
            compares(random, random, 255);
            compares(random, random + 1, 255);
        }
    }

    private static void compareAtTheEnds() {
        compares(0, 0, 255);
        compares(0, 0xFFFFFF, 255);
        compares(0xFFFFFF, 0, LampBus.NONE);
        compares(0xFFFFFF, 0xFFFFFE, LampBus.NONE);
        compares(0xFFFFFF, 0xFFFFFF, 255);
    }

    private static void compareOfOthers() {
        LampBus bus = Check.searched(5, 9);
        Check.setSearch(bus, 5);
        bus.send(0xAB, 0);
        Check.due("A9 with the only one below withdrawn", bus.send(0xA9, 0), LampBus.NONE);
        Check.setSearch(bus, 9);
        Check.due("A9 with the other one there", bus.send(0xA9, 0), 255);
        bus.send(0xA1, 0);
        Check.due("A9 with none initialised", bus.send(0xA9, 0), LampBus.NONE);
        Check.due("A9 without gears", new LampBus().send(0xA9, 0), LampBus.NONE);
    }

    private static void withdrawAtTheEdge() {
        int[] searches = {99, 100, 101, 0, 0xFFFFFF, 0x010064, 0x000164};
        for (int search : searches) {
            LampBus bus = Check.searched(100);
            Check.setSearch(bus, search);
            Check.due("the answer to AB", bus.send(0xAB, 0), LampBus.NONE);
            Check.due("withdrawn with SEARCH " + search, bus.told(0, 13), search == 100 ? 1 : 0);
            Check.due("initialised behind AB", bus.told(0, 12), 1);
        }
    }

    private static void withdrawOfOthers() {
        LampBus bus = Check.searched(100, 100, 101);
        Check.setSearch(bus, 100);
        bus.send(0xAB, 0);
        Check.due("the first of two that are the same", bus.told(0, 13), 1);
        Check.due("the second of two that are the same", bus.told(1, 13), 1);
        Check.due("another one", bus.told(2, 13), 0);
        bus.send(0xA1, 0);
        Check.setSearch(bus, 101);
        bus.send(0xAB, 0);
        Check.due("one that is not initialised", bus.told(2, 13), 0);
    }

    /** A gear that is found by its random number, with a short address by this code. */
    private static LampBus found(int code) {
        LampBus bus = Check.searched(100);
        Check.setSearch(bus, 100);
        bus.send(0xB7, code);
        return bus;
    }

    private static void programShort() {
        int[][] due = {
            {0, 12}, {1, 0}, {2, 12}, {3, 1}, {125, 62}, {126, 12}, {127, 63}, {128, 12}, {129, 12}, {253, 12},
            {254, 12}, {255, 255}
        };
        for (int[] pair : due) {
            LampBus bus = found(25);
            bus.send(0xA3, 31);
            Check.due("the answer to B7", bus.send(0xB7, pair[0]), LampBus.NONE);
            Check.due("SHORT by b = " + pair[0], bus.told(0, 8), pair[1]);
            Check.due("DTR by b = " + pair[0], bus.told(0, 10), 31);
        }
    }

    private static void verifyShort() {
        int[] codes = {1, 25, 127, 255};
        for (int code : codes) {
            LampBus bus = found(code);
            for (int b = 0; b <= 255; b++) {
                boolean same = b == code && code < 128;
                Check.due("B9 " + b + " with SHORT by " + code, bus.send(0xB9, b), same ? 255 : LampBus.NONE);
            }
        }
    }

    private static void queryShort() {
        int[] codes = {1, 3, 125, 127, 255};
        for (int code : codes) {
            Check.due("BB with SHORT by " + code, found(code).send(0xBB, 0), code);
        }
    }

    private static void shortAtTheEdge() {
        int[] searches = {99, 101, 0, 0xFFFFFF};
        for (int search : searches) {
            LampBus bus = found(127);
            Check.setSearch(bus, search);
            silent("with SEARCH " + search, bus);
        }
    }

    private static void shortOfOthers() {
        LampBus withdrawn = found(127);
        withdrawn.send(0xAB, 0);
        silent("withdrawn", withdrawn);
        LampBus ended = found(127);
        ended.send(0xA1, 0);
        silent("not initialised", ended);
    }

    private static void silent(String when, LampBus bus) {
        Check.due("B9, " + when, bus.send(0xB9, 127), LampBus.NONE);
        Check.due("BB, " + when, bus.send(0xBB, 0), LampBus.NONE);
        bus.send(0xB7, 1);
        Check.due("SHORT behind B7, " + when, bus.told(0, 8), 63);
        bus.send(0xB7, 255);
        Check.due("SHORT behind B7 FF, " + when, bus.told(0, 8), 63);
    }

    private static void bytesOfSearch() {
        int[][] due = {
            {0xB1, 0, 0x00FFFF}, {0xB3, 0, 0x0000FF}, {0xB5, 0, 0}, {0xB5, 255, 0x0000FF}, {0xB3, 255, 0x00FFFF},
            {0xB1, 255, 0xFFFFFF}, {0xB3, 0x80, 0xFF80FF}, {0xB1, 0x80, 0x8080FF}, {0xB5, 0x80, 0x808080}
        };
        LampBus bus = Check.busOf(1);
        for (int[] row : due) {
            Check.due("the answer to " + row[0], bus.send(row[0], row[1]), LampBus.NONE);
            Check.due("SEARCH by " + row[0] + " " + row[1], bus.told(0, 11), row[2]);
        }
    }

    private static void searchOfOthers() {
        LampBus bus = Check.searched(5, 6);
        Check.setSearch(bus, 5);
        bus.send(0xAB, 0);
        Check.setSearch(bus, 0x0A0B0C);
        Check.due("SEARCH of one withdrawn", bus.told(0, 11), 0x0A0B0C);
        Check.due("SEARCH of one initialised", bus.told(1, 11), 0x0A0B0C);
        bus.send(0xA1, 0);
        Check.setSearch(bus, 0);
        Check.due("SEARCH of one not initialised", bus.told(1, 11), 0);
    }
}
