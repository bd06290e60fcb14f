import java.util.ArrayList;
import java.util.Arrays;
import java.util.List;
import java.util.TreeSet;

/**
 * The document's terms once more, written apart from the program and as near to the document's words
 * as can be: each value of a gear stands under its number of told(), each frame is looked at by itself.
 */
final class PlainModel {
    private static final int LEVEL = 0, LEAST = 1, MOST = 2, POWER = 3, FAIL = 4, FADE = 5, RATE = 6, GROUPS = 7,
            SHORT = 8, RANDOM = 9, DTR = 10, SEARCH = 11, INITIALISED = 12, WITHDRAWN = 13, SCENE = 16,
            NEXT = 32, SIZE = 33;
    private static final String TICKS = "7 10 14 20 28 40 57 80 113 160 226 320 453 640 905";
    private static final String STEPS = "72 51 36 25 18 13 9 6 4 3 2 2 1 1 1";

    /** A fade as all the levels that are still to come, the end last; empty without a fade. */
    private static final class Gear {
        final int[] v = new int[SIZE];
        List<Integer> toCome = new ArrayList<>();

        Gear() {
            Arrays.fill(v, 255);
            Arrays.fill(v, LEVEL, 16, 0);
            firstOf(LEVEL, LEAST, MOST, POWER, FAIL, FADE, RATE, GROUPS, SHORT, RANDOM, DTR, SEARCH);
            v[NEXT] = 0;
        }

        void firstOf(int... whats) {
            int[] first = {254, 1, 254, 254, 254, 0, 7, 0, 255, 0xFFFFFF, 0, 0xFFFFFF, 0, 0};
            for (int what : whats) {
                v[what] = first[what];
            }
        }

        void level(int level) {
            v[LEVEL] = level;
            toCome = new ArrayList<>();
        }

        int within(int level) {
            return level < v[LEAST] ? v[LEAST] : Math.min(level, v[MOST]);
        }

        void goTo(int wanted) {
            int end = wanted == 0 ? 0 : within(wanted);
            int begin = v[LEVEL];
            toCome = new ArrayList<>();
            if (v[FADE] == 0 || begin == 0 || end == 0 && begin == v[LEAST]) {
                level(end);
                return;
            }
            int all = entry(TICKS, v[FADE]);
            for (int k = 1; k < all; k++) {
                int way = Math.abs(end - begin) * k / all;
                toCome.add(Math.max(v[LEAST], end < begin ? begin - way : begin + way));
            }
            toCome.add(end);
        }
    }

    private final List<Gear> gears = new ArrayList<>();
    private final List<Integer> frames = new ArrayList<>();
    private boolean open = false;
    private int compares = 0;

    private static int entry(String row, int number) {
        return Integer.parseInt(row.split(" ")[number - 1]);
    }

    int gear() {
        if (gears.size() == 16) {
            return -2;
        }
        gears.add(new Gear());
        return gears.size() - 1;
    }

    boolean give(int gear, int random) {
        boolean right = gear >= 0 && gear < gears.size() && random >= 0 && random < 1 << 24;
        if (right) {
            gears.get(gear).v[NEXT] = random;
        }
        return right;
    }

    int send(int a, int b) {
        if (a < 0 || a > 255 || b < 0 || b > 255) {
            return -2;
        }
        int frame = 256 * a + b;
        boolean twice = open && frames.get(frames.size() - 1) == frame;
        frames.add(frame);
        open = !twice;
        TreeSet<Integer> answers = new TreeSet<>();
        for (Gear gear : gears) {
            Integer answer = heard(gear, a, b, twice);
            if (answer != null) {
                answers.add(answer);
            }
        }
        return answers.isEmpty() ? -1 : answers.size() == 1 ? answers.first() : 256;
    }

    private static Integer heard(Gear g, int a, int b, boolean twice) {
        boolean all = a == 0xFE || a == 0xFF;
        boolean group = a >= 0x80 && a <= 0x9F;
        if (a > 0x9F && !all) {
            return special(g, a, b, twice);
        }
        if (!all && !group && g.v[SHORT] != a / 2) {
            return null;
        }
        if (group && (g.v[GROUPS] & 1 << (a - 0x80) / 2) == 0) {
            return null;
        }
        if (a % 2 == 0) {
            if (b == 255) {
                g.level(g.v[LEVEL]);
            } else {
                g.goTo(b);
            }
            return null;
        }
        if (b >= 0x90) {
            return query(g, b);
        }
        if (b >= 0x20) {
            if (twice) {
                setting(g, b);
            }
        } else {
            command(g, b);
        }
        return null;
    }

    private static void command(Gear g, int b) {
        int level = g.v[LEVEL];
        int step = entry(STEPS, g.v[RATE]);
        if (b == 0) {
            g.level(0);
        } else if (b <= 4 && level > 0) {
            g.level(g.within(level + (b == 1 ? step : b == 2 ? -step : b == 3 ? 1 : -1)));
        } else if (b == 5) {
            g.level(g.v[MOST]);
        } else if (b == 6) {
            g.level(g.v[LEAST]);
        } else if (b == 7) {
            g.level(level > g.v[LEAST] ? level - 1 : 0);
        } else if (b == 8) {
            g.level(level == 0 ? g.v[LEAST] : Math.min(level + 1, g.v[MOST]));
        } else if (b >= 0x10 && g.v[SCENE + b - 0x10] != 255) {
            g.goTo(g.v[SCENE + b - 0x10]);
        }
    }

    private static void setting(Gear g, int b) {
        int dtr = g.v[DTR];
        if (b == 0x20) {
            g.firstOf(LEAST, MOST, POWER, FAIL, FADE, RATE, GROUPS, RANDOM);
            Arrays.fill(g.v, SCENE, SCENE + 16, 255);
            g.level(254);
        } else if (b == 0x21) {
            g.v[DTR] = g.v[LEVEL];
        } else if (b == 0x2A || b == 0x2B) {
            if (b == 0x2A) {
                g.v[MOST] = dtr > 254 ? 254 : dtr < g.v[LEAST] ? g.v[LEAST] : dtr;
            } else {
                g.v[LEAST] = dtr < 1 ? 1 : dtr > g.v[MOST] ? g.v[MOST] : dtr;
            }
            g.level(g.v[LEVEL] > 0 ? g.within(g.v[LEVEL]) : 0);
        } else if (b == 0x2C) {
            g.v[FAIL] = dtr;
        } else if (b == 0x2D) {
            g.v[POWER] = dtr;
        } else if (b == 0x2E) {
            g.v[FADE] = dtr > 15 ? 15 : dtr;
        } else if (b == 0x2F) {
            g.v[RATE] = dtr > 15 ? 15 : dtr < 1 ? 1 : dtr;
        } else if (b >= 0x40 && b <= 0x4F) {
            g.v[SCENE + b - 0x40] = dtr;
        } else if (b >= 0x50 && b <= 0x5F) {
            g.v[SCENE + b - 0x50] = 255;
        } else if (b >= 0x60 && b <= 0x6F) {
            g.v[GROUPS] |= 1 << b - 0x60;
        } else if (b >= 0x70 && b <= 0x7F) {
            g.v[GROUPS] &= 0xFFFF - (1 << b - 0x70);
        } else if (b == 0x80) {
            shortBy(g, dtr);
        }
    }

    private static void shortBy(Gear g, int code) {
        if (code == 255) {
            g.v[SHORT] = 255;
        }
        if (code % 2 == 1 && code < 0x80) {
            g.v[SHORT] = (code - 1) / 2;
        }
    }

    private static Integer query(Gear g, int b) {
        if (b >= 0xB0 && b <= 0xBF) {
            return g.v[SCENE + b - 0xB0];
        }
        int random = g.v[RANDOM];
        boolean lit = g.v[LEVEL] > 0;
        boolean nameless = g.v[SHORT] == 255;
        switch (b) {
            case 0x90: return (lit ? 4 : 0) | (g.toCome.isEmpty() ? 0 : 16) | (nameless ? 64 : 0);
            case 0x91: return 255;
            case 0x93: return lit ? 255 : null;
            case 0x96: return nameless ? 255 : null;
            case 0x98: return g.v[DTR];
            case 0xA0: return g.v[LEVEL];
            case 0xA1: return g.v[MOST];
            case 0xA2: return g.v[LEAST];
            case 0xA3: return g.v[POWER];
            case 0xA4: return g.v[FAIL];
            case 0xA5: return 16 * g.v[FADE] + g.v[RATE];
            case 0xC0: return g.v[GROUPS] % 256;
            case 0xC1: return g.v[GROUPS] / 256;
            case 0xC2: return random / 65536;
            case 0xC3: return random / 256 % 256;
            case 0xC4: return random % 256;
            default: return null;
        }
    }

    private static Integer special(Gear g, int a, int b, boolean twice) {
        boolean coded = b % 2 == 1 && b < 0x80;
        boolean itsOwn = coded && g.v[SHORT] == (b - 1) / 2;
        boolean searched = g.v[INITIALISED] == 1 && g.v[WITHDRAWN] == 0;
        boolean found = searched && g.v[RANDOM] == g.v[SEARCH];
        int search = g.v[SEARCH];
        if (a == 0xA1) {
            g.v[INITIALISED] = 0;
        } else if (a == 0xA3) {
            g.v[DTR] = b;
        } else if (a == 0xA5 && twice && (b == 0 || b == 255 && g.v[SHORT] == 255 || itsOwn)) {
            g.v[INITIALISED] = 1;
            g.v[WITHDRAWN] = 0;
        } else if (a == 0xA7 && twice && g.v[INITIALISED] == 1) {
            g.v[RANDOM] = g.v[NEXT];
        } else if (a == 0xA9) {
            return searched && g.v[RANDOM] <= search ? 255 : null;
        } else if (a == 0xAB && found) {
            g.v[WITHDRAWN] = 1;
        } else if (a == 0xB1) {
            g.v[SEARCH] = b * 65536 + search % 65536;
        } else if (a == 0xB3) {
            g.v[SEARCH] = search / 65536 * 65536 + b * 256 + search % 256;
        } else if (a == 0xB5) {
            g.v[SEARCH] = search / 256 * 256 + b;
        } else if (a == 0xB7 && found) {
            shortBy(g, b);
        } else if (a == 0xB9 && found) {
            return itsOwn ? 255 : null;
        } else if (a == 0xBB && found) {
            return g.v[SHORT] == 255 ? 255 : 2 * g.v[SHORT] + 1;
        }
        return null;
    }

    int tick(int n) {
        if (n < 1 || n > 2000) {
            return -2;
        }
        open = false;
        int fading = 0;
        for (Gear g : gears) {
            for (int i = 0; i < n && !g.toCome.isEmpty(); i++) {
                g.v[LEVEL] = g.toCome.remove(0);
            }
            fading += g.toCome.isEmpty() ? 0 : 1;
        }
        return fading;
    }

    void power() {
        for (Gear g : gears) {
            int power = g.v[POWER];
            g.level(power == 255 ? g.v[LEVEL] : power == 0 ? 0 : g.within(power));
            g.firstOf(SEARCH, DTR, INITIALISED, WITHDRAWN);
        }
    }

    void fail() {
        for (Gear g : gears) {
            if (g.v[FAIL] < 255) {
                g.goTo(g.v[FAIL]);
            }
        }
    }

    int commission(int first) {
        if (first < 0 || first > 63) {
            return -2;
        }
        compares = 0;
        int[] begin = {0xA5, 0xA5, 0xA7, 0xA7};
        for (int a : begin) {
            send(a, 0);
        }
        int given = 0;
        while (first + given < 64 && given < 20 && compare(0xFFFFFF) != -1) {
            int found = 0;
            for (int bit = 23; bit >= 0; bit--) {
                found += compare(found + (1 << bit) - 1) == -1 ? 1 << bit : 0;
            }
            search(found);
            send(0xB7, 2 * (first + given) + 1);
            send(0xAB, 0);
            given++;
        }
        send(0xA1, 0);
        return given;
    }

    private void search(int search) {
        send(0xB1, search / 65536);
        send(0xB3, search / 256 % 256);
        send(0xB5, search % 256);
    }

    private int compare(int search) {
        search(search);
        compares++;
        return send(0xA9, 0);
    }

    int compares() {
        return compares;
    }

    int told(int gear, int what) {
        if (gear < 0 || gear >= gears.size() || what < 0 || what == 15 || what > 31) {
            return -2;
        }
        Gear g = gears.get(gear);
        if (what == 14) {
            return g.toCome.isEmpty() ? -1 : g.toCome.get(g.toCome.size() - 1);
        }
        return g.v[what];
    }

    int frames() {
        return frames.size();
    }
}
