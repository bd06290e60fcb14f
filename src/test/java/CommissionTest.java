import java.util.Random;

/** Promises 8, 9 and 11: commission gives out addresses by frames, which are counted. */
public final class CommissionTest {
    /** The frames for one address: 25 times SEARCH and A9, SEARCH at last, B7 and AB. */
    private static final int FRAMES_FOR_ONE = 25 * 4 + 3 + 2;

    public static void main(String[] args) {
        wrongFirst();
        inTheOrderOfRandom();
        edgesOfRandom();
        sameRandom();
        noAddressLeft();
        allAgain();
        stateBehind();
        framesAsSentByHand();
        Check.finish();
    }

    private static void wrongFirst() {
        LampBus bus = Check.busOf(2);
        bus.commission(0);
        int compares = bus.compares();
        int frames = bus.frames();
        int[] wrong = {-1, 64, 255, Integer.MIN_VALUE, Integer.MAX_VALUE};
        for (int first : wrong) {
            Check.due("commission(" + first + ")", bus.commission(first), LampBus.BAD);
        }
        Check.due("compares() behind wrong ones", bus.compares(), compares);
        Check.due("frames() behind wrong ones", bus.frames(), frames);
        Check.due("SHORT behind wrong ones", bus.told(0, 8), 0);
    }

    private static void inTheOrderOfRandom() {
        Random source = new Random(1);
        for (int gears = 0; gears <= 16; gears++) {
            LampBus bus = Check.busOf(gears);
            int[] randoms = new int[gears];
            for (int i = 0; i < gears; i++) {
                randoms[i] = source.nextInt(0x1000000);
                bus.give(i, randoms[i]);
            }
            Check.due("commission(7)", bus.commission(7), gears);
            Check.due("compares()", bus.compares(), 25 * gears + 1);
            Check.due("frames()", bus.frames(), 4 + gears * FRAMES_FOR_ONE + 4 + 1);
            for (int i = 0; i < gears; i++) {
                int below = 0;
                for (int random : randoms) {
                    below += random < randoms[i] ? 1 : 0;
                }
                Check.due("address of gear " + i, bus.told(i, 8), 7 + below);
                Check.due("RANDOM of gear " + i, bus.told(i, 9), randoms[i]);
            }
        }
    }

    private static void edgesOfRandom() {
        int[] randoms = {0xFFFFFF, 0, 1, 0xFFFFFE, 0x800000, 0x7FFFFF, 0x00FF00, 0x010000};
        int[] want = {7, 0, 1, 6, 5, 4, 2, 3};
        LampBus bus = Check.busOf(randoms.length);
        for (int i = 0; i < randoms.length; i++) {
            bus.give(i, randoms[i]);
        }
        Check.due("commission(0)", bus.commission(0), randoms.length);
        for (int i = 0; i < randoms.length; i++) {
            Check.due("address of random " + randoms[i], bus.told(i, 8), want[i]);
        }
    }

    private static void sameRandom() {
        LampBus bus = Check.busOf(4);
        bus.give(0, 50);
        bus.give(1, 40);
        bus.give(2, 50);
        bus.give(3, 60);
        Check.due("commission of two with one random", bus.commission(10), 3);
        int[] want = {11, 10, 11, 12};
        for (int i = 0; i < 4; i++) {
            Check.due("address of gear " + i, bus.told(i, 8), want[i]);
        }
    }

    private static void noAddressLeft() {
        LampBus bus = Check.busOf(3);
        for (int i = 0; i < 3; i++) {
            bus.give(i, 10 + i);
        }
        Check.due("commission(62)", bus.commission(62), 2);
        Check.due("compares() when 63 was given", bus.compares(), 50);
        Check.due("frames() when 63 was given", bus.frames(), 4 + 2 * FRAMES_FOR_ONE + 1);
        Check.due("the last address", bus.told(1, 8), 63);
        Check.due("the one without", bus.told(2, 8), 255);
        Check.due("its SEARCH", bus.told(2, 11), 11);
        Check.due("not initialised any more", bus.told(2, 12), 0);
        Check.due("not withdrawn", bus.told(2, 13), 0);
        LampBus one = Check.busOf(1);
        Check.due("commission(63) of one", one.commission(63), 1);
        Check.due("compares() of commission(63)", one.compares(), 25);
    }

    private static void allAgain() {
        LampBus bus = Check.busOf(2);
        bus.give(0, 1);
        bus.give(1, 2);
        bus.commission(0);
        bus.give(0, 3);
        bus.gear();
        Check.due("commission again", bus.commission(20), 3);
        Check.due("compares() of the last alone", bus.compares(), 76);
        Check.due("address of 0", bus.told(0, 8), 22);
        Check.due("address of 1", bus.told(1, 8), 21);
        Check.due("address of 2", bus.told(2, 8), 20);
    }

    private static void stateBehind() {
        LampBus bus = Check.busOf(2);
        bus.send(0xA3, 9);
        bus.give(0, 5);
        bus.give(1, 6);
        bus.send(0xA5, 0);
        bus.commission(3);
        for (int gear = 0; gear < 2; gear++) {
            Check.due("address", bus.told(gear, 8), 3 + gear);
            Check.due("DTR", bus.told(gear, 10), 9);
            Check.due("SEARCH", bus.told(gear, 11), 0xFFFFFF);
            Check.due("initialised", bus.told(gear, 12), 0);
            Check.due("withdrawn", bus.told(gear, 13), 1);
            Check.due("level", bus.told(gear, 0), 254);
        }
    }

    /** What commission() does can be done by send() alone, with the same frames and the same end. */
    private static void framesAsSentByHand() {
        LampBus one = Check.busOf(4);
        LampBus other = Check.busOf(4);
        for (int i = 0; i < 4; i++) {
            one.give(i, 0x345678 ^ i * 0x1F1F1F);
            other.give(i, 0x345678 ^ i * 0x1F1F1F);
        }
        Check.due("given by hand", byHand(other), one.commission(0));
        Check.due("frames by hand", other.frames(), one.frames());
        for (int gear = 0; gear < 4; gear++) {
            for (int what = 0; what < 15; what++) {
                Check.due("told " + what + " by hand", other.told(gear, what), one.told(gear, what));
            }
        }
    }

    private static int byHand(LampBus bus) {
        Check.sendTwice(bus, 0xA5, 0);
        Check.sendTwice(bus, 0xA7, 0);
        int given = 0;
        Check.setSearch(bus, 0xFFFFFF);
        while (given < 20 && bus.send(0xA9, 0) != LampBus.NONE) {
            int found = 0;
            for (int bit = 23; bit >= 0; bit--) {
                Check.setSearch(bus, found | (1 << bit) - 1);
                if (bus.send(0xA9, 0) == LampBus.NONE) {
                    found |= 1 << bit;
                }
            }
            Check.setSearch(bus, found);
            bus.send(0xB7, 2 * given + 1);
            bus.send(0xAB, 0);
            given++;
            Check.setSearch(bus, 0xFFFFFF);
        }
        bus.send(0xA1, 0);
        return given;
    }
}
