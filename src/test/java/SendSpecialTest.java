/** Promise 4: the special frames. */
public final class SendSpecialTest {
    public static void main(String[] args) {
        dtr();
        search();
        initialise();
        terminate();
        randomise();
        compare();
        withdraw();
        programShort();
        verifyAndQueryShort();
        onlyInitialisedAndNotWithdrawn();
        Check.finish();
    }

    /** Three gears with the random numbers 100, 200, 200, all initialised, without addresses. */
    private static LampBus three() {
        LampBus bus = Check.busOf(3);
        bus.give(0, 100);
        bus.give(1, 200);
        bus.give(2, 200);
        Check.sendTwice(bus, 0xA5, 0);
        Check.sendTwice(bus, 0xA7, 0);
        return bus;
    }

    private static void dtr() {
        for (int value = 255; value >= 0; value--) {
            LampBus bus = Check.busOf(2);
            Check.due("A3", bus.send(0xA3, value), LampBus.NONE);
            Check.due("DTR of 0", bus.told(0, 10), value);
            Check.due("DTR of 1", bus.told(1, 10), value);
        }
    }

    private static void search() {
        LampBus bus = Check.busOf(2);
        Check.due("B1", bus.send(0xB1, 0x12), LampBus.NONE);
        Check.due("SEARCH by B1", bus.told(0, 11), 0x12FFFF);
        bus.send(0xB3, 0x34);
        Check.due("SEARCH by B3", bus.told(0, 11), 0x1234FF);
        bus.send(0xB5, 0x56);
        Check.due("SEARCH by B5", bus.told(1, 11), 0x123456);
        bus.send(0xB3, 0xFF);
        Check.due("SEARCH by B3 again", bus.told(1, 11), 0x12FF56);
        bus.send(0xB1, 0);
        Check.due("SEARCH by B1 again", bus.told(1, 11), 0x00FF56);
        bus.send(0xB5, 0xFF);
        Check.due("SEARCH by B5 again", bus.told(1, 11), 0x00FFFF);
        Check.due("initialised all the same", bus.told(0, 12), 0);
    }

    private static void initialise() {
        for (int b = 0; b <= 255; b++) {
            LampBus bus = Check.busOf(3);
            Check.giveShortAddresses(bus, 3);
            Check.set(bus, 1, 0x80, 127);
            Check.set(bus, 3, 0x80, 255);
            Check.due("A5", bus.send(0xA5, b), LampBus.NONE);
            Check.due("A5 again", bus.send(0xA5, b), LampBus.NONE);
            boolean[] meant = {b == 0 || b == 127, b == 0 || b == 255, b == 0 || b == 5};
            for (int gear = 0; gear < 3; gear++) {
                Check.due("A5 " + b + ": gear " + gear + " initialised", bus.told(gear, 12), meant[gear] ? 1 : 0);
                Check.due("A5 " + b + ": gear " + gear + " withdrawn", bus.told(gear, 13), meant[gear] ? 0 : 1);
            }
        }
        LampBus bus = Check.busOf(2);
        Check.giveShortAddresses(bus, 2);
        Check.sendTwice(bus, 0xA5, 1);
        Check.sendTwice(bus, 0xA5, 3);
        Check.due("one that was initialised stays so", bus.told(0, 12), 1);
        Check.set(bus, 0xFF, 0x80, 9);
        bus.send(0xA1, 0);
        Check.sendTwice(bus, 0xA5, 9);
        Check.due("two of one address: 0", bus.told(0, 12), 1);
        Check.due("two of one address: 1", bus.told(1, 12), 1);
    }

    private static void terminate() {
        LampBus bus = three();
        Check.setSearch(bus, 100);
        bus.send(0xAB, 0);
        Check.due("A1", bus.send(0xA1, 0), LampBus.NONE);
        for (int gear = 0; gear < 3; gear++) {
            Check.due("initialised behind A1", bus.told(gear, 12), 0);
        }
        Check.due("withdrawn stays behind A1", bus.told(0, 13), 1);
        Check.due("SEARCH stays behind A1", bus.told(0, 11), 100);
        Check.sendTwice(bus, 0xA5, 0);
        bus.send(0xA1, 77);
        Check.due("A1 with another byte", bus.told(0, 12), 0);
    }

    private static void randomise() {
        LampBus bus = Check.busOf(2);
        bus.give(0, 0xABCDEF);
        bus.give(1, 5);
        Check.sendTwice(bus, 0xA7, 0);
        Check.due("A7 without A5", bus.told(0, 9), 0xFFFFFF);
        bus.commission(0);
        Check.due("RANDOM of 0", bus.told(0, 9), 0xABCDEF);
        bus.give(0, 1);
        bus.give(1, 2);
        Check.sendTwice(bus, 0xA5, 1);
        Check.sendTwice(bus, 0xA7, 99);
        Check.due("RANDOM of one not initialised", bus.told(0, 9), 0xABCDEF);
        Check.due("RANDOM of one initialised", bus.told(1, 9), 2);
        Check.setSearch(bus, 2);
        bus.send(0xAB, 0);
        Check.due("withdrawn", bus.told(1, 13), 1);
        bus.give(1, 3);
        Check.sendTwice(bus, 0xA7, 0);
        Check.due("RANDOM of one withdrawn", bus.told(1, 9), 3);
    }

    private static void compare() {
        LampBus bus = three();
        int[][] due = {{0, LampBus.NONE}, {99, LampBus.NONE}, {100, 255}, {101, 255}, {199, 255}, {200, 255}, {0xFFFFFF, 255}};
        for (int[] pair : due) {
            Check.setSearch(bus, pair[0]);
            Check.due("A9 with " + pair[0], bus.send(0xA9, 0), pair[1]);
            Check.due("A9 with another byte", bus.send(0xA9, 255), pair[1]);
        }
        Check.due("compares() counts those of commission() alone", bus.compares(), 0);
    }

    private static void withdraw() {
        LampBus bus = three();
        Check.setSearch(bus, 199);
        bus.send(0xAB, 0);
        Check.due("withdrawn below SEARCH", bus.told(0, 13), 0);
        Check.due("withdrawn above SEARCH", bus.told(1, 13), 0);
        Check.setSearch(bus, 200);
        Check.due("AB", bus.send(0xAB, 7), LampBus.NONE);
        Check.due("withdrawn 0", bus.told(0, 13), 0);
        Check.due("withdrawn 1", bus.told(1, 13), 1);
        Check.due("withdrawn 2", bus.told(2, 13), 1);
        Check.due("initialised yet", bus.told(2, 12), 1);
        Check.setSearch(bus, 100);
        bus.send(0xAB, 0);
        Check.setSearch(bus, 0xFFFFFF);
        Check.due("A9 with all withdrawn", bus.send(0xA9, 0), LampBus.NONE);
        Check.sendTwice(bus, 0xA5, 0);
        Check.due("withdrawn behind A5", bus.told(2, 13), 0);
        Check.due("A9 behind A5", bus.send(0xA9, 0), 255);
    }

    private static void programShort() {
        for (int b = 0; b <= 255; b++) {
            LampBus bus = three();
            Check.setSearch(bus, 200);
            bus.send(0xB7, 25);
            Check.due("B7", bus.send(0xB7, b), LampBus.NONE);
            int want = b % 2 == 1 && b < 128 ? (b - 1) / 2 : 12;
            want = b == 255 ? 255 : want;
            Check.due("SHORT of 0 by B7 " + b, bus.told(0, 8), 255);
            Check.due("SHORT of 1 by B7 " + b, bus.told(1, 8), want);
            Check.due("SHORT of 2 by B7 " + b, bus.told(2, 8), want);
            Check.due("DTR by B7", bus.told(1, 10), 0);
        }
    }

    private static void verifyAndQueryShort() {
        LampBus bus = three();
        Check.setSearch(bus, 100);
        Check.due("BB without address", bus.send(0xBB, 0), 255);
        for (int b = 1; b <= 255; b += 2) {
            Check.due("B9 without address", bus.send(0xB9, b), LampBus.NONE);
        }
        bus.send(0xB7, 127);
        Check.due("BB of 63", bus.send(0xBB, 0), 127);
        bus.send(0xB7, 1);
        Check.due("BB of 0", bus.send(0xBB, 9), 1);
        bus.send(0xB7, 21);
        for (int b = 0; b <= 255; b++) {
            Check.due("B9 " + b + " with address 10", bus.send(0xB9, b), b == 21 ? 255 : LampBus.NONE);
        }
        Check.setSearch(bus, 101);
        Check.due("BB with another SEARCH", bus.send(0xBB, 0), LampBus.NONE);
        Check.due("B9 with another SEARCH", bus.send(0xB9, 21), LampBus.NONE);
        Check.setSearch(bus, 200);
        bus.send(0xB7, 5);
        Check.set(bus, 0xFF, 0x60, 0);
        Check.due("BB of two that agree", bus.send(0xBB, 0), 5);
        bus.give(1, 300);
        Check.sendTwice(bus, 0xA7, 0);
        bus.send(0xB7, 7);
        bus.give(1, 200);
        Check.sendTwice(bus, 0xA7, 0);
        Check.due("BB of two that differ", bus.send(0xBB, 0), LampBus.CLASH);
        Check.due("B9 of one of two", bus.send(0xB9, 7), 255);
    }

    private static void onlyInitialisedAndNotWithdrawn() {
        LampBus bus = three();
        Check.setSearch(bus, 100);
        bus.send(0xB7, 11);
        bus.send(0xAB, 0);
        silent(bus, "withdrawn");
        bus.send(0xA1, 0);
        Check.sendTwice(bus, 0xA5, 255);
        silent(bus, "neither");
        bus.send(0xA1, 0);
        Check.sendTwice(bus, 0xA5, 11);
        Check.due("BB of one initialised again", bus.send(0xBB, 0), 11);
        bus.send(0xA1, 0);
        Check.due("withdrawn no more", bus.told(0, 13), 0);
        silent(bus, "not initialised");
        bus.send(0xAB, 0);
        Check.due("AB of one not initialised", bus.told(0, 13), 0);
    }

    private static void silent(LampBus bus, String why) {
        Check.due("A9, " + why, bus.send(0xA9, 0), LampBus.NONE);
        Check.due("B9, " + why, bus.send(0xB9, 11), LampBus.NONE);
        Check.due("BB, " + why, bus.send(0xBB, 0), LampBus.NONE);
        bus.send(0xB7, 21);
        Check.due("SHORT by B7, " + why, bus.told(0, 8), 5);
    }
}
