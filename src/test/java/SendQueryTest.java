/** Promise 4: the queries. */
public final class SendQueryTest {
    public static void main(String[] args) {
        status();
        values();
        others();
        Check.finish();
    }

    private static void status() {
        LampBus bus = Check.busOf(1);
        Check.due("lit, without address", bus.send(0xFF, 0x90), 4 + 64);
        bus.send(0xFF, 0);
        Check.due("dark, without address", bus.send(0xFF, 0x90), 64);
        bus.commission(9);
        Check.due("dark, with address", bus.send(19, 0x90), 0);
        bus.send(0xFF, 6);
        Check.due("lit at level 1, with address", bus.send(19, 0x90), 4);
        bus.send(0xFF, 5);
        Check.due("lit, with address", bus.send(19, 0x90), 4);
        Check.set(bus, 0xFF, 0x2E, 2);
        bus.send(0xFE, 0);
        Check.due("it fades, with address", bus.send(19, 0x90), 4 + 16);
        bus.tick(9);
        Check.due("it fades yet", bus.send(19, 0x90), 4 + 16);
        bus.tick(1);
        Check.due("it is dark", bus.send(19, 0x90), 0);
    }

    private static void values() {
        LampBus bus = Check.busOf(1);
        bus.give(0, 0x12CDEF);
        Check.due("no short address", bus.send(0xFF, 0x96), 255);
        bus.commission(9);
        Check.set(bus, 0xFF, 0x2A, 222);
        Check.set(bus, 0xFF, 0x2B, 11);
        Check.set(bus, 0xFF, 0x2C, 44);
        Check.set(bus, 0xFF, 0x2D, 33);
        Check.set(bus, 0xFF, 0x2E, 15);
        Check.set(bus, 0xFF, 0x2F, 14);
        for (int scene = 0; scene < 16; scene++) {
            Check.set(bus, 0xFF, 0x40 + scene, 200 + scene);
        }
        Check.sendTwice(bus, 0xFF, 0x60);
        Check.sendTwice(bus, 0xFF, 0x67);
        Check.sendTwice(bus, 0xFF, 0x69);
        Check.sendTwice(bus, 0xFF, 0x6F);
        int[][] due = {
            {0x91, 255}, {0x93, 255}, {0x96, LampBus.NONE}, {0x98, 215}, {0xA0, 222}, {0xA1, 222},
            {0xA2, 11}, {0xA3, 33}, {0xA4, 44}, {0xA5, 254}, {0xC0, 0x81}, {0xC1, 0x82},
            {0xC2, 0x12}, {0xC3, 0xCD}, {0xC4, 0xEF}
        };
        for (int[] query : due) {
            Check.due("query " + query[0], bus.send(19, query[0]), query[1]);
            Check.due("query " + query[0] + " again", bus.send(19, query[0]), query[1]);
        }
        for (int scene = 0; scene < 16; scene++) {
            Check.due("scene " + scene, bus.send(19, 0xB0 + scene), 200 + scene);
        }
        bus.send(0xFF, 0);
        Check.due("level of a dark lamp", bus.send(19, 0xA0), 0);
        Check.due("a dark lamp", bus.send(19, 0x93), LampBus.NONE);
        Check.due("a dark lamp is there", bus.send(19, 0x91), 255);
    }

    private static void others() {
        LampBus bus = Check.busOf(1);
        for (int query = 0; query <= 255; query++) {
            boolean known = query == 0x90 || query == 0x91 || query == 0x93 || query == 0x96 || query == 0x98
                    || query >= 0xA0 && query <= 0xA5 || query >= 0xB0 && query <= 0xC4;
            int answer = bus.send(0xFF, query);
            Check.due("an answer to " + query, answer != LampBus.NONE, known);
        }
    }
}
