import java.util.ArrayList;
import java.util.Arrays;

/** A bus of up to sixteen lamp gears that hear frames of two bytes and may answer with one. */
public final class LampBus {
    public static final int NONE = -1, CLASH = 256, BAD = -2;

    private static final int MOST_GEARS = 16;
    private static final int MOST_TICKS = 2000;
    private static final int LAST_SHORT = 63;
    // Out of reach with sixteen gears, but it bounds the loop whatever they answer.
    private static final int MOST_GIVEN = 20;

    private static final int YES = 255;
    private static final int UNSET = 255;
    private static final int ALL_24_BITS = 0xFFFFFF;

    private static final int FIRST_GROUP_ADDRESS = 0x80;
    private static final int FIRST_SPECIAL = 0xA0;
    private static final int FIRST_TO_ALL = 0xFE;

    private static final int TERMINATE = 0xA1;
    private static final int SET_DTR = 0xA3;
    private static final int INITIALISE = 0xA5;
    private static final int RANDOMISE = 0xA7;
    private static final int COMPARE = 0xA9;
    private static final int WITHDRAW = 0xAB;
    private static final int SEARCH_HIGH = 0xB1;
    private static final int SEARCH_MIDDLE = 0xB3;
    private static final int SEARCH_LOW = 0xB5;
    private static final int PROGRAM_SHORT = 0xB7;
    private static final int VERIFY_SHORT = 0xB9;
    private static final int QUERY_SHORT = 0xBB;

    private final ArrayList<Gear> gears;
    private int frameCount;
    private int compareCount;
    private int lastA;
    private int lastB;
    private boolean lastMayBeFirstOfTwo;

    public LampBus() {
        gears = new ArrayList<>();
    }

    public int gear() {
        if (gears.size() >= MOST_GEARS) {
            return BAD;
        }
        gears.add(new Gear());
        return gears.size() - 1;
    }

    public boolean give(int gear, int random) {
        if (!isGear(gear) || random < 0 || random > ALL_24_BITS) {
            return false;
        }
        gears.get(gear).nextRandom = random;
        return true;
    }

    public int send(int a, int b) {
        if (!isByte(a) || !isByte(b)) {
            return BAD;
        }
        boolean special = a >= FIRST_SPECIAL && a < FIRST_TO_ALL;
        return special ? sendSpecial(a, b) : sendAddressed(a, b);
    }

    public int tick(int n) {
        if (n < 1 || n > MOST_TICKS) {
            return BAD;
        }
        lastMayBeFirstOfTwo = false;
        int fading = 0;
        for (int i = 0; i < gears.size(); i++) {
            Lamp lamp = gears.get(i).lamp;
            lamp.passTicks(n);
            if (lamp.isFading()) {
                fading++;
            }
        }
        return fading;
    }

    public void power() {
        for (int i = 0; i < gears.size(); i++) {
            gears.get(i).startAgain();
        }
    }

    public void fail() {
        for (int i = 0; i < gears.size(); i++) {
            Gear gear = gears.get(i);
            gear.goToUnlessUnset(gear.failLevel);
        }
    }

    public int commission(int first) {
        if (first < 0 || first > LAST_SHORT) {
            return BAD;
        }
        compareCount = 0;
        sendSpecial(INITIALISE, 0);
        sendSpecial(INITIALISE, 0);
        sendSpecial(RANDOMISE, 0);
        sendSpecial(RANDOMISE, 0);
        int given = 0;
        while (given < MOST_GIVEN && first + given <= LAST_SHORT && isAnyLeft()) {
            searchLeastRandom();
            sendSpecial(PROGRAM_SHORT, 2 * (first + given) + 1);
            sendSpecial(WITHDRAW, 0);
            given++;
        }
        sendSpecial(TERMINATE, 0);
        return given;
    }

    public int compares() {
        return compareCount;
    }

    public int told(int gear, int what) {
        return isGear(gear) ? gears.get(gear).valueOf(what) : BAD;
    }

    public int frames() {
        return frameCount;
    }

    private boolean isGear(int gear) {
        return gear >= 0 && gear < gears.size();
    }

    private static boolean isByte(int value) {
        return value >= 0 && value <= 255;
    }

    private int sendSpecial(int a, int b) {
        boolean twice = countFrame(a, b);
        int answer = NONE;
        for (int i = 0; i < gears.size(); i++) {
            answer = joined(answer, gears.get(i).hearSpecial(a, b, twice));
        }
        return answer;
    }

    private int sendAddressed(int a, int b) {
        boolean twice = countFrame(a, b);
        boolean isLevel = (a & 1) == 0;
        int answer = NONE;
        for (int i = 0; i < gears.size(); i++) {
            Gear gear = gears.get(i);
            if (!gear.isMeantBy(a)) {
                continue;
            }
            if (isLevel) {
                gear.hearLevel(b);
            } else {
                answer = joined(answer, gear.hearCommand(b, twice));
            }
        }
        return answer;
    }

    /** Counts a frame; true, if it is TWICE. */
    private boolean countFrame(int a, int b) {
        frameCount++;
        boolean twice = lastMayBeFirstOfTwo && a == lastA && b == lastB;
        lastA = a;
        lastB = b;
        lastMayBeFirstOfTwo = !twice;
        return twice;
    }

    private static int joined(int answer, int other) {
        if (other == NONE || other == answer) {
            return answer;
        }
        return answer == NONE ? other : CLASH;
    }

    private void sendSearch(int search) {
        sendSpecial(SEARCH_HIGH, search >> 16 & 255);
        sendSpecial(SEARCH_MIDDLE, search >> 8 & 255);
        sendSpecial(SEARCH_LOW, search & 255);
    }

    private boolean isAnyWithinSearch() {
        compareCount++;
        return sendSpecial(COMPARE, 0) != NONE;
    }

    private boolean isAnyLeft() {
        sendSearch(ALL_24_BITS);
        return isAnyWithinSearch();
    }

    private void searchLeastRandom() {
        int search = ALL_24_BITS;
        for (int bit = 23; bit >= 0; bit--) {
            int without = search - (1 << bit);
            sendSearch(without);
            if (isAnyWithinSearch()) {
                search = without;
            }
        }
        // The last number that was tried may be one below the one that was found.
        sendSearch(search);
    }

    /** The light of a gear: its level, the bounds of it, and the fade that may be under way. */
    private static final class Lamp {
        private static final int HIGHEST_LEVEL = 254;
        private static final int HIGHEST_SETTING = 15;
        // Entry 0 of each is there so that FADE and RATE are the index as they stand.
        private static final int[] FADE_TICKS = {
            0, 7, 10, 14, 20, 28, 40, 57, 80, 113, 160, 226, 320, 453, 640, 905
        };
        private static final int[] RATE_STEPS = {
            0, 72, 51, 36, 25, 18, 13, 9, 6, 4, 3, 2, 2, 1, 1, 1
        };

        private int level;
        private int least;
        private int most;
        private int fade;
        private int rate;
        private int fadeBegin;
        private int fadeEnd;
        private int ticksPassed;
        // Kept from the fade's begin on, as FADE may be set anew meanwhile; 0 without a fade.
        private int ticksInAll;

        private void reset() {
            level = HIGHEST_LEVEL;
            least = 1;
            most = HIGHEST_LEVEL;
            fade = 0;
            rate = 7;
            endFade();
        }

        private boolean isFading() {
            return ticksInAll > 0;
        }

        private void endFade() {
            ticksInAll = 0;
        }

        private void setLevel(int wanted) {
            level = wanted;
            endFade();
        }

        private int clamped(int wanted) {
            if (wanted < least) {
                return least;
            }
            return wanted > most ? most : wanted;
        }

        private int offOrClamped(int wanted) {
            return wanted == 0 ? 0 : clamped(wanted);
        }

        private void goTo(int wanted) {
            int end = offOrClamped(wanted);
            if (fade == 0 || level == 0 || (end == 0 && level == least)) {
                setLevel(end);
                return;
            }
            fadeBegin = level;
            fadeEnd = end;
            ticksPassed = 0;
            ticksInAll = FADE_TICKS[fade & HIGHEST_SETTING];
        }

        private void passTicks(int n) {
            if (ticksInAll <= 0) {
                return;
            }
            ticksPassed += n;
            if (ticksPassed >= ticksInAll) {
                setLevel(fadeEnd);
                return;
            }
            int reached = fadeBegin + (fadeEnd - fadeBegin) * ticksPassed / ticksInAll;
            level = Math.max(reached, least);
        }

        private void moveBy(int step) {
            if (level > 0) {
                setLevel(clamped(level + step));
            }
        }

        private int rateStep() {
            return RATE_STEPS[rate & HIGHEST_SETTING];
        }

        private void stepDownOrOff() {
            setLevel(level <= least ? 0 : clamped(level - 1));
        }

        private void onOrStepUp() {
            setLevel(level == 0 ? least : clamped(level + 1));
        }

        private void setMost(int wanted) {
            most = Math.max(least, Math.min(wanted, HIGHEST_LEVEL));
            setLevel(offOrClamped(level));
        }

        private void setLeast(int wanted) {
            least = Math.max(1, Math.min(wanted, most));
            setLevel(offOrClamped(level));
        }

        private void setFade(int wanted) {
            fade = Math.min(wanted, HIGHEST_SETTING);
        }

        private void setRate(int wanted) {
            rate = Math.max(1, Math.min(wanted, HIGHEST_SETTING));
        }
    }

    /** One gear: what it keeps, which frames it hears, and what it answers. */
    private static final class Gear {
        private final Lamp lamp;
        private final int[] scenes;
        private int powerLevel;
        private int failLevel;
        private int groups;
        private int shortAddress;
        private int random;
        private int nextRandom;
        private int dtr;
        private int search;
        private boolean initialised;
        private boolean withdrawn;

        private Gear() {
            lamp = new Lamp();
            scenes = new int[16];
            shortAddress = UNSET;
            reset();
            forgetSearch();
        }

        private void reset() {
            lamp.reset();
            powerLevel = Lamp.HIGHEST_LEVEL;
            failLevel = Lamp.HIGHEST_LEVEL;
            groups = 0;
            Arrays.fill(scenes, UNSET);
            random = ALL_24_BITS;
        }

        private void forgetSearch() {
            search = ALL_24_BITS;
            dtr = 0;
            initialised = false;
            withdrawn = false;
        }

        private void startAgain() {
            lamp.endFade();
            if (powerLevel != UNSET) {
                lamp.setLevel(lamp.offOrClamped(powerLevel));
            }
            forgetSearch();
        }

        private boolean isMeantBy(int a) {
            if (a < FIRST_GROUP_ADDRESS) {
                return shortAddress == a / 2;
            }
            if (a < FIRST_SPECIAL) {
                return (groups >> (a - FIRST_GROUP_ADDRESS) / 2 & 1) == 1;
            }
            return a >= FIRST_TO_ALL;
        }

        private void hearLevel(int wanted) {
            if (wanted == UNSET) {
                lamp.endFade();
            } else {
                lamp.goTo(wanted);
            }
        }

        private void goToUnlessUnset(int wanted) {
            if (wanted != UNSET) {
                lamp.goTo(wanted);
            }
        }

        private int hearCommand(int command, boolean twice) {
            if (command >= 0x90) {
                return answerTo(command);
            }
            if (command < 0x20) {
                light(command);
            } else if (twice) {
                configure(command);
            }
            return NONE;
        }

        private void light(int command) {
            switch (command) {
                case 0: lamp.setLevel(0); return;
                case 1: lamp.moveBy(lamp.rateStep()); return;
                case 2: lamp.moveBy(-lamp.rateStep()); return;
                case 3: lamp.moveBy(1); return;
                case 4: lamp.moveBy(-1); return;
                case 5: lamp.setLevel(lamp.most); return;
                case 6: lamp.setLevel(lamp.least); return;
                case 7: lamp.stepDownOrOff(); return;
                case 8: lamp.onOrStepUp(); return;
                default:
            }
            if (command >= 0x10) {
                goToUnlessUnset(scenes[command & 15]);
            }
        }

        private void configure(int command) {
            switch (command) {
                case 0x20: reset(); return;
                case 0x21: dtr = lamp.level; return;
                case 0x2A: lamp.setMost(dtr); return;
                case 0x2B: lamp.setLeast(dtr); return;
                case 0x2C: failLevel = dtr; return;
                case 0x2D: powerLevel = dtr; return;
                case 0x2E: lamp.setFade(dtr); return;
                case 0x2F: lamp.setRate(dtr); return;
                case 0x80: takeShort(dtr); return;
                default: configureNumbered(command >> 4, command & 15);
            }
        }

        private void configureNumbered(int kind, int number) {
            switch (kind) {
                case 4: scenes[number & 15] = dtr; return;
                case 5: scenes[number & 15] = UNSET; return;
                case 6: groups |= 1 << number; return;
                case 7: groups &= ~(1 << number); return;
                default:
            }
        }

        private int answerTo(int query) {
            switch (query) {
                case 0x90: return status();
                case 0x91: return YES;
                case 0x93: return yesIf(lamp.level > 0);
                case 0x96: return yesIf(shortAddress == UNSET);
                case 0x98: return dtr;
                case 0xA0: return lamp.level;
                case 0xA1: return lamp.most;
                case 0xA2: return lamp.least;
                case 0xA3: return powerLevel;
                case 0xA4: return failLevel;
                case 0xA5: return 16 * lamp.fade + lamp.rate;
                case 0xC0: return groups & 255;
                case 0xC1: return groups >> 8 & 255;
                case 0xC2: return random >> 16 & 255;
                case 0xC3: return random >> 8 & 255;
                case 0xC4: return random & 255;
                default: return query >> 4 == 0xB ? scenes[query & 15] : NONE;
            }
        }

        private int status() {
            int lit = lamp.level > 0 ? 4 : 0;
            int fading = lamp.isFading() ? 16 : 0;
            int nameless = shortAddress == UNSET ? 64 : 0;
            return lit + fading + nameless;
        }

        private static int yesIf(boolean holds) {
            return holds ? YES : NONE;
        }

        private int hearSpecial(int a, int b, boolean twice) {
            switch (a) {
                case TERMINATE: initialised = false; return NONE;
                case SET_DTR: dtr = b; return NONE;
                case SEARCH_HIGH: search = search & 0x00FFFF | b << 16; return NONE;
                case SEARCH_MIDDLE: search = search & 0xFF00FF | b << 8; return NONE;
                case SEARCH_LOW: search = search & 0xFFFF00 | b; return NONE;
                case INITIALISE:
                    if (twice && isToInitialise(b)) {
                        initialised = true;
                        withdrawn = false;
                    }
                    return NONE;
                case RANDOMISE:
                    if (twice && initialised) {
                        random = nextRandom;
                    }
                    return NONE;
                default:
                    return initialised && !withdrawn ? hearInSearch(a, b) : NONE;
            }
        }

        private boolean isToInitialise(int b) {
            if (b == 0) {
                return true;
            }
            return b == 255 ? shortAddress == UNSET : isShortOf(b);
        }

        private int hearInSearch(int a, int b) {
            if (a == COMPARE) {
                return yesIf(random <= search);
            }
            if (random != search) {
                return NONE;
            }
            switch (a) {
                case WITHDRAW: withdrawn = true; return NONE;
                case PROGRAM_SHORT: takeShort(b); return NONE;
                case VERIFY_SHORT: return yesIf(isShortOf(b));
                case QUERY_SHORT: return shortAddress == UNSET ? UNSET : 2 * shortAddress + 1;
                default: return NONE;
            }
        }

        private boolean isShortOf(int code) {
            return shortAddress != UNSET && code == 2 * shortAddress + 1;
        }

        private void takeShort(int code) {
            if (code == UNSET) {
                shortAddress = UNSET;
            } else if ((code & 1) == 1 && code < 0x80) {
                shortAddress = (code - 1) / 2;
            }
        }

        private int valueOf(int what) {
            switch (what) {
                case 0: return lamp.level;
                case 1: return lamp.least;
                case 2: return lamp.most;
                case 3: return powerLevel;
                case 4: return failLevel;
                case 5: return lamp.fade;
                case 6: return lamp.rate;
                case 7: return groups;
                case 8: return shortAddress;
                case 9: return random;
                case 10: return dtr;
                case 11: return search;
                case 12: return initialised ? 1 : 0;
                case 13: return withdrawn ? 1 : 0;
                case 14: return lamp.isFading() ? lamp.fadeEnd : NONE;
                default: return what >= 16 && what < 32 ? scenes[what - 16] : BAD;
            }
        }
    }
}
