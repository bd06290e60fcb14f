/** Terms: the queries. */
final class QueryEdges {
    private QueryEdges() {
    }

    static void hold(Document document) {
        document.hold("QUERIES (YES is 255): 90 status: 4, if the level is above 0; 16, if it fades; "
                + "64, if it has no short address.",
                QueryEdges::statusByLevel, QueryEdges::statusByFade, QueryEdges::statusByShort);
        document.hold("91 YES.", QueryEdges::isThere);
        document.hold("93 YES, if the level is above 0.", QueryEdges::isLit);
        document.hold("96 YES, if it has no short address.", QueryEdges::hasNoShort);
        document.hold("98 DTR.", QueryEdges::dtr);
        document.hold("A0 level.", QueryEdges::level);
        document.hold("A1 MOST.", QueryEdges::most);
        document.hold("A2 LEAST.", QueryEdges::least);
        document.hold("A3 POWER.", QueryEdges::power);
        document.hold("A4 FAIL.", QueryEdges::fail);
        document.hold("A5 16 FADE + RATE.", QueryEdges::fadeAndRate);
        document.hold("B0 .. BF scene.", QueryEdges::scenes);
        document.hold("C0 groups 0 .. 7, C1 8 .. 15.", QueryEdges::groups);
        document.hold("C2, C3, C4 the bytes of RANDOM, the highest first.", QueryEdges::bytesOfRandom);
        document.hold("Others: nothing.", QueryEdges::others);
    }

    private static void answers(String when, LampBus bus, int query, int want) {
        Check.due("send(FF, " + query + "), " + when, bus.send(0xFF, query), want);
    }

    private static void statusByLevel() {
        answers("level 0", Check.lampAt(1, 254, 0), 0x90, 64);
        answers("level 1", Check.lampAt(1, 254, 1), 0x90, 64 + 4);
        answers("level 254", Check.lampAt(1, 254, 254), 0x90, 64 + 4);
    }

    private static void statusByFade() {
        LampBus bus = Check.lamp(1, 254, 1);
        bus.send(0xFE, 0);
        answers("before the first tick", bus, 0x90, 64 + 16 + 4);
        bus.tick(6);
        answers("before the last tick", bus, 0x90, 64 + 16 + 4);
        bus.tick(1);
        answers("behind the last tick", bus, 0x90, 64);
    }

    private static void statusByShort() {
        LampBus bus = Check.lampAt(1, 254, 0);
        int[][] due = {{1, 0}, {255, 64}, {127, 0}};
        for (int[] pair : due) {
            Check.set(bus, 0xFF, 0x80, pair[0]);
            answers("SHORT by " + pair[0], bus, 0x90, pair[1]);
        }
    }

    private static void isThere() {
        answers("level 0", Check.lampAt(1, 254, 0), 0x91, 255);
        answers("sixteen gears", Check.busOf(16), 0x91, 255);
        answers("no gear", Check.busOf(0), 0x91, LampBus.NONE);
    }

    private static void isLit() {
        answers("level 0", Check.lampAt(1, 254, 0), 0x93, LampBus.NONE);
        answers("level 1", Check.lampAt(1, 254, 1), 0x93, 255);
        answers("level 254", Check.lampAt(1, 254, 254), 0x93, 255);
    }

    private static void hasNoShort() {
        LampBus bus = Check.busOf(1);
        answers("none at first", bus, 0x96, 255);
        int[][] due = {{1, LampBus.NONE}, {255, 255}, {127, LampBus.NONE}};
        for (int[] pair : due) {
            Check.set(bus, 0xFF, 0x80, pair[0]);
            answers("SHORT by " + pair[0], bus, 0x96, pair[1]);
        }
    }

    /** Sets DTR to the first of each pair, by the setting where there is one, and asks. */
    private static void answersTo(int setting, int query, int[][] due) {
        for (int[] pair : due) {
            LampBus bus = Check.lamp(50, 200, 0);
            Check.set(bus, 0xFF, setting, pair[0]);
            answers("DTR " + pair[0], bus, query, pair[1]);
        }
    }

    private static void dtr() {
        LampBus bus = Check.busOf(1);
        int[] bytes = {0, 1, 254, 255};
        for (int value : bytes) {
            bus.send(0xA3, value);
            answers("DTR " + value, bus, 0x98, value);
        }
    }

    private static void level() {
        int[] levels = {0, 1, 254};
        for (int level : levels) {
            answers("level " + level, Check.lampAt(1, 254, level), 0xA0, level);
        }
    }

    private static void most() {
        answersTo(0x2A, 0xA1, new int[][] {{0, 50}, {50, 50}, {254, 254}, {255, 254}});
    }

    private static void least() {
        answersTo(0x2B, 0xA2, new int[][] {{0, 1}, {1, 1}, {200, 200}, {255, 200}});
    }

    private static void power() {
        answersTo(0x2D, 0xA3, new int[][] {{0, 0}, {254, 254}, {255, 255}});
    }

    private static void fail() {
        answersTo(0x2C, 0xA4, new int[][] {{0, 0}, {254, 254}, {255, 255}});
    }

    private static void fadeAndRate() {
        int[][] due = {{0, 1, 1}, {0, 15, 15}, {1, 1, 17}, {15, 1, 241}, {15, 15, 255}};
        for (int[] row : due) {
            LampBus bus = Check.busOf(1);
            Check.set(bus, 0xFF, 0x2E, row[0]);
            Check.set(bus, 0xFF, 0x2F, row[1]);
            answers("FADE " + row[0] + ", RATE " + row[1], bus, 0xA5, row[2]);
        }
    }

    private static void scenes() {
        answersTo(0x40, 0xB0, new int[][] {{0, 0}, {254, 254}, {255, 255}});
        answersTo(0x4F, 0xBF, new int[][] {{0, 0}, {254, 254}, {255, 255}});
        answersTo(0x40, 0xB1, new int[][] {{0, 255}});
        answersTo(0x4F, 0xBE, new int[][] {{0, 255}});
    }

    private static void groups() {
        int[][] due = {{0, 1, 0}, {7, 128, 0}, {8, 0, 1}, {15, 0, 128}};
        LampBus all = Check.busOf(1);
        answers("in no group", all, 0xC0, 0);
        answers("in no group", all, 0xC1, 0);
        for (int[] row : due) {
            LampBus bus = Check.busOf(1);
            Check.sendTwice(bus, 0xFF, 0x60 + row[0]);
            answers("in group " + row[0], bus, 0xC0, row[1]);
            answers("in group " + row[0], bus, 0xC1, row[2]);
        }
        for (int group = 0; group < 16; group++) {
            Check.sendTwice(all, 0xFF, 0x60 + group);
        }
        answers("in all groups", all, 0xC0, 255);
        answers("in all groups", all, 0xC1, 255);
    }

    private static void bytesOfRandom() {
        int[] randoms = {0, 0xFFFFFF, 0xFF0000, 0x00FF00, 0x0000FF, 0x800000, 0x010203};
        for (int random : randoms) {
            LampBus bus = Check.searched(random);
            answers("RANDOM " + random, bus, 0xC2, random / 0x10000);
            answers("RANDOM " + random, bus, 0xC3, random / 0x100 % 0x100);
            answers("RANDOM " + random, bus, 0xC4, random % 0x100);
        }
    }

    private static void others() {
        int[][] ranges = {
            {0x92, 0x92}, {0x94, 0x95}, {0x97, 0x97}, {0x99, 0x9F}, {0xA6, 0xAF}, {0xC5, 0xFF}
        };
        LampBus bus = Check.searched(0x010203);
        for (int[] range : ranges) {
            for (int query = range[0]; query <= range[1]; query++) {
                answers("which is no query", bus, query, LampBus.NONE);
            }
        }
    }
}
