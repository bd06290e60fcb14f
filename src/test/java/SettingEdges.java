/** Terms: the settings 20 .. 80, which must be sent twice. */
final class SettingEdges {
    private SettingEdges() {
    }

    static void hold(Document document) {
        document.hold("TWICE alone (the first has no effect): 20 all as at first, but SHORT, DTR, SEARCH, initialised, "
                + "withdrawn, next random.",
                SettingEdges::firstHasNoEffect, SettingEdges::allAsAtFirst);
        document.hold("21 DTR becomes the level.", SettingEdges::levelIntoDtr);
        document.hold("2A MOST becomes DTR, at least LEAST, at most 254.", SettingEdges::most);
        document.hold("2B LEAST, at least 1, at most MOST (in both the level, if it is above 0, is brought within, "
                + "at once, and a fade ends, also if it is within).",
                SettingEdges::least, SettingEdges::levelBroughtWithin, SettingEdges::levelZeroStays,
                SettingEdges::fadeEnds);
        document.hold("2C FAIL, 2D POWER.", SettingEdges::failAndPower);
        document.hold("2E FADE, 15 at most.", SettingEdges::fade);
        document.hold("2F RATE, 1 at least, 15 at most.", SettingEdges::rate);
        document.hold("40 .. 4F scene becomes DTR.", SettingEdges::sceneSet);
        document.hold("50 .. 5F 255.", SettingEdges::sceneTaken);
        document.hold("60 .. 6F into the group, 70 .. 7F out of it.",
                SettingEdges::firstAndLastGroup, SettingEdges::intoAndOutAgain);
        document.hold("80 SHORT: none, if DTR is 255; (DTR - 1) / 2, if DTR is odd and below 80.",
                SettingEdges::shortAddress, SettingEdges::besideShortAddress);
    }

    /** A gear of which nothing is as it was at first; it fades from 200 to 30. */
    private static LampBus unusual() {
        LampBus bus = Check.searched(0x123456);
        Check.set(bus, 0xFF, 0x80, 127);
        Check.set(bus, 0xFF, 0x2A, 200);
        Check.set(bus, 0xFF, 0x2B, 20);
        for (int setting = 0x2C; setting <= 0x2F; setting++) {
            Check.set(bus, 0xFF, setting, 3);
        }
        for (int scene = 0; scene < 16; scene++) {
            Check.set(bus, 0xFF, 0x40 + scene, 9);
        }
        for (int group = 0; group < 16; group += 3) {
            Check.sendTwice(bus, 0xFF, 0x60 + group);
        }
        Check.setSearch(bus, 0x123456);
        bus.send(0xAB, 0);
        bus.send(0xA3, 51);
        bus.send(0xFE, 30);
        bus.tick(5);
        return bus;
    }

    private static int[] values(LampBus bus) {
        int[] values = new int[32];
        for (int what = 0; what < 32; what++) {
            values[what] = bus.told(0, what);
        }
        return values;
    }

    private static void firstHasNoEffect() {
        for (int command = 0x20; command <= 0x8F; command++) {
            LampBus bus = unusual();
            int[] before = values(bus);
            Check.due("the answer to one " + command, bus.send(0xFF, command), LampBus.NONE);
            int[] behind = values(bus);
            for (int what = 0; what < 32; what++) {
                Check.due("told(0, " + what + ") behind one " + command, behind[what], before[what]);
            }
        }
    }

    private static void allAsAtFirst() {
        LampBus bus = unusual();
        Check.sendTwice(bus, 0xFF, 0x20);
        int[] want = {254, 1, 254, 254, 254, 0, 7, 0, 63, 0xFFFFFF, 51, 0x123456, 1, 1, LampBus.NONE};
        for (int what = 0; what < want.length; what++) {
            Check.due("told(0, " + what + ") behind 20", bus.told(0, what), want[what]);
        }
        for (int scene = 0; scene < 16; scene++) {
            Check.due("scene " + scene + " behind 20", bus.told(0, 16 + scene), 255);
        }
        Check.sendTwice(bus, 0xA7, 0);
        Check.due("the next random number behind 20", bus.told(0, 9), 0x123456);
    }

    private static void levelIntoDtr() {
        int[] levels = {0, 1, 254};
        for (int level : levels) {
            LampBus bus = Check.lampAt(1, 254, level);
            bus.send(0xA3, 77);
            Check.sendTwice(bus, 0xFF, 0x21);
            Check.due("DTR by the level " + level, bus.told(0, 10), level);
        }
    }

    /** For each pair of a DTR and the value that is due. */
    private static void becomes(int setting, int what, int[][] due) {
        for (int[] pair : due) {
            LampBus bus = Check.lamp(50, 200, 3);
            Check.set(bus, 0xFF, setting, pair[0]);
            Check.due("told(0, " + what + ") by DTR " + pair[0], bus.told(0, what), pair[1]);
        }
    }

    private static void most() {
        becomes(0x2A, 2, new int[][] {
            {0, 50}, {1, 50}, {49, 50}, {50, 50}, {51, 51}, {253, 253}, {254, 254}, {255, 254}
        });
        becomes(0x2A, 1, new int[][] {{0, 50}, {49, 50}, {255, 50}});
    }

    private static void least() {
        becomes(0x2B, 1, new int[][] {
            {0, 1}, {1, 1}, {2, 2}, {199, 199}, {200, 200}, {201, 200}, {254, 200}, {255, 200}
        });
        becomes(0x2B, 2, new int[][] {{0, 200}, {201, 200}, {255, 200}});
    }

    /** The level 100, with FADE 15, behind a setting with a DTR. */
    private static void levelBroughtWithin() {
        int[][] mosts = {{99, 99}, {100, 100}, {101, 100}, {255, 100}};
        for (int[] pair : mosts) {
            bringsWithin(0x2A, pair[0], pair[1]);
        }
        int[][] leasts = {{0, 100}, {99, 100}, {100, 100}, {101, 101}};
        for (int[] pair : leasts) {
            bringsWithin(0x2B, pair[0], pair[1]);
        }
    }

    private static void bringsWithin(int setting, int dtr, int want) {
        LampBus bus = Check.lampAt(50, 200, 100);
        Check.set(bus, 0xFF, 0x2E, 15);
        Check.set(bus, 0xFF, setting, dtr);
        Check.level("100 at first, by " + setting + " with DTR " + dtr, bus, want);
        Check.fadesTo("by " + setting + " with DTR " + dtr, bus, LampBus.NONE);
    }

    private static void levelZeroStays() {
        int[] settings = {0x2A, 0x2B};
        int[] bytes = {0, 1, 100, 255};
        for (int setting : settings) {
            for (int dtr : bytes) {
                LampBus bus = Check.lampAt(50, 200, 0);
                Check.set(bus, 0xFF, setting, dtr);
                Check.level("0 at first, by " + setting + " with DTR " + dtr, bus, 0);
            }
        }
    }

    /** It fades from 200 to 100 and is at 150: within, at the bound, and without. */
    private static void fadeEnds() {
        int[][] due = {
            {0x2A, 151, 150}, {0x2A, 150, 150}, {0x2A, 149, 149}, {0x2B, 149, 150}, {0x2B, 150, 150}, {0x2B, 151, 151}
        };
        for (int[] row : due) {
            LampBus bus = Check.lamp(50, 200, 4);
            bus.send(0xFE, 100);
            bus.tick(10);
            bus.send(0xA3, row[1]);
            bus.send(0xFF, row[0]);
            Check.fadesTo("by the first " + row[0], bus, 100);
            bus.send(0xFF, row[0]);
            Check.fadesTo("by " + row[0] + " with DTR " + row[1], bus, LampBus.NONE);
            bus.tick(1);
            Check.level("a tick behind " + row[0] + " with DTR " + row[1], bus, row[2]);
        }
    }

    private static void failAndPower() {
        int[][] due = {{0, 0}, {1, 1}, {49, 49}, {201, 201}, {254, 254}, {255, 255}};
        becomes(0x2C, 4, due);
        becomes(0x2D, 3, due);
        becomes(0x2C, 3, new int[][] {{0, 254}});
        becomes(0x2D, 4, new int[][] {{0, 254}});
    }

    private static void fade() {
        becomes(0x2E, 5, new int[][] {{0, 0}, {1, 1}, {14, 14}, {15, 15}, {16, 15}, {17, 15}, {255, 15}});
    }

    private static void rate() {
        becomes(0x2F, 6, new int[][] {{0, 1}, {1, 1}, {2, 2}, {14, 14}, {15, 15}, {16, 15}, {17, 15}, {255, 15}});
    }

    private static void sceneSet() {
        becomes(0x40, 16, new int[][] {{0, 0}, {1, 1}, {254, 254}, {255, 255}});
        becomes(0x4F, 31, new int[][] {{0, 0}, {1, 1}, {254, 254}, {255, 255}});
        int[] beside = {0x3F, 0x50};
        for (int command : beside) {
            becomes(command, 16, new int[][] {{9, 255}});
            becomes(command, 31, new int[][] {{9, 255}});
        }
        becomes(0x40, 17, new int[][] {{9, 255}});
        becomes(0x4F, 30, new int[][] {{9, 255}});
    }

    private static void sceneTaken() {
        LampBus bus = unusual();
        Check.sendTwice(bus, 0xFF, 0x50);
        Check.due("scene 0", bus.told(0, 16), 255);
        Check.due("scene 1", bus.told(0, 17), 9);
        Check.sendTwice(bus, 0xFF, 0x5F);
        Check.due("scene 15", bus.told(0, 31), 255);
        Check.due("scene 14", bus.told(0, 30), 9);
        Check.sendTwice(bus, 0xFF, 0x50);
        Check.due("scene 0 once more", bus.told(0, 16), 255);
    }

    private static void firstAndLastGroup() {
        int[][] due = {{0x60, 1}, {0x61, 3}, {0x6F, 0x8003}, {0x70, 0x8002}, {0x7F, 2}, {0x71, 0}};
        LampBus bus = Check.busOf(1);
        for (int[] pair : due) {
            Check.sendTwice(bus, 0xFF, pair[0]);
            Check.due("groups by " + pair[0], bus.told(0, 7), pair[1]);
        }
    }

    private static void intoAndOutAgain() {
        LampBus bus = Check.busOf(1);
        int[] groups = {0, 15};
        for (int group : groups) {
            Check.sendTwice(bus, 0xFF, 0x70 + group);
            Check.due("out of a group that it is not in", bus.told(0, 7), 0);
            Check.sendTwice(bus, 0xFF, 0x60 + group);
            Check.sendTwice(bus, 0xFF, 0x60 + group);
            Check.due("into a group that it is in", bus.told(0, 7), 1 << group);
            Check.sendTwice(bus, 0xFF, 0x70 + group);
        }
    }

    /** For each pair of a DTR and the short address that is due, where it was 12. */
    private static void shortAddress() {
        int[][] due = {
            {0, 12}, {1, 0}, {2, 12}, {3, 1}, {125, 62}, {126, 12}, {127, 63}, {128, 12}, {129, 12}, {253, 12},
            {254, 12}, {255, 255}
        };
        for (int[] pair : due) {
            LampBus bus = Check.busOf(1);
            Check.set(bus, 0xFF, 0x80, 25);
            Check.set(bus, 0xFF, 0x80, pair[0]);
            Check.due("SHORT by DTR " + pair[0], bus.told(0, 8), pair[1]);
        }
        becomes(0x80, 8, new int[][] {{0, 255}, {126, 255}, {128, 255}, {129, 255}, {254, 255}, {255, 255}});
    }

    private static void besideShortAddress() {
        LampBus bus = Check.busOf(1);
        for (int command = 0x81; command <= 0x8F; command++) {
            Check.set(bus, 0xFF, command, 25);
            Check.due("SHORT by " + command, bus.told(0, 8), 255);
        }
    }
}
