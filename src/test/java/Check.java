/** Counts answers that are not the due ones, and ends the program with 1 if there were any. */
final class Check {
    private static int wrong = 0;
    private static String held = "";

    private Check() {
    }

    /** From here on the answers are due by this sentence of the document. */
    static void by(String sentence) {
        held = "[" + sentence + "] ";
    }

    static void due(String call, long got, long want) {
        if (got != want) {
            wrong++;
            System.out.println(held + call + " answered " + got + ", due is " + want);
        }
    }

    static void due(String call, boolean got, boolean want) {
        due(call, got ? 1 : 0, want ? 1 : 0);
    }

    static void finish() {
        if (wrong > 0) {
            System.out.println(wrong + " answers are not as due");
            System.exit(1);
        }
    }

    /** A bus with so many gears. */
    static LampBus busOf(int gears) {
        LampBus bus = new LampBus();
        for (int i = 0; i < gears; i++) {
            bus.gear();
        }
        return bus;
    }

    static void sendTwice(LampBus bus, int a, int b) {
        bus.send(a, b);
        bus.send(a, b);
    }

    /** Puts value into DTR and lets the gears at address a adopt it by the command. */
    static void set(LampBus bus, int a, int command, int value) {
        bus.send(0xA3, value);
        sendTwice(bus, a, command);
    }

    /** Gives gear its number as short address, where no gear has an address before. */
    static void giveShortAddresses(LampBus bus, int gears) {
        for (int i = 0; i < gears; i++) {
            bus.give(i, i);
        }
        bus.commission(0);
    }

    static void setSearch(LampBus bus, int search) {
        bus.send(0xB1, search >> 16);
        bus.send(0xB3, search >> 8 & 255);
        bus.send(0xB5, search & 255);
    }

    /** One gear with these bounds and this FADE, without address, at its MOST level. */
    static LampBus lamp(int least, int most, int fade) {
        LampBus bus = busOf(1);
        set(bus, 0xFF, 0x2A, most);
        set(bus, 0xFF, 0x2B, least);
        set(bus, 0xFF, 0x2E, fade);
        return bus;
    }

    /** One gear with these bounds, without a fade, at this level. */
    static LampBus lampAt(int least, int most, int level) {
        LampBus bus = lamp(least, most, 0);
        bus.send(0xFE, level);
        return bus;
    }

    /** Gears with these random numbers, initialised, without addresses. */
    static LampBus searched(int... randoms) {
        LampBus bus = busOf(randoms.length);
        for (int i = 0; i < randoms.length; i++) {
            bus.give(i, randoms[i]);
        }
        sendTwice(bus, 0xA5, 0);
        sendTwice(bus, 0xA7, 0);
        return bus;
    }

    static void level(String when, LampBus bus, int want) {
        due("the level, " + when, bus.told(0, 0), want);
    }

    static void fadesTo(String when, LampBus bus, int want) {
        due("what it fades to, " + when, bus.told(0, 14), want);
    }
}
