import java.util.Random;

/** All promises: runs of calls by a fixed seed, with the answers that the plain model gives. */
public final class RandomRunsTest {
    private static final int RUNS = 3000;
    // A step and the look at all values in the end stay below the 512 calls of the document.
    private static final int CALLS = 460;
    private static final int[] EDGES = {
        -1, 0, 1, 2, 15, 16, 63, 64, 127, 128, 253, 254, 255, 256, 2000, 2001, 0xFFFFFF, 0x1000000,
        Integer.MIN_VALUE, Integer.MAX_VALUE
    };
    private static final int[] SPECIALS = {
        0xA1, 0xA3, 0xA3, 0xA5, 0xA5, 0xA7, 0xA9, 0xAB, 0xB1, 0xB3, 0xB5, 0xB7, 0xB9, 0xBB, 0xA4, 0xAD, 0xFD
    };

    private final Random source;
    private final LampBus bus = new LampBus();
    private final PlainModel model = new PlainModel();
    private final int run;
    private int calls = 0;

    private RandomRunsTest(int run) {
        this.run = run;
        source = new Random(run);
    }

    public static void main(String[] args) {
        for (int run = 0; run < RUNS; run++) {
            new RandomRunsTest(run).go();
        }
        Check.finish();
    }

    private void go() {
        int gears = source.nextInt(6);
        for (int i = 0; i < gears; i++) {
            due("gear()", bus.gear(), model.gear());
        }
        while (calls < CALLS) {
            step();
        }
        for (int what = 0; what < 32 && gears > 0; what++) {
            told(source.nextInt(gears), what);
        }
        due("frames()", bus.frames(), model.frames());
    }

    private void due(String call, long got, long want) {
        calls++;
        Check.due("run " + run + ": " + call, got, want);
    }

    private void step() {
        switch (source.nextInt(40)) {
            case 0: due("gear()", bus.gear(), model.gear()); return;
            case 1: give(source.nextInt(6), source.nextInt(4) * 0x10001); return;
            case 2: give(edge(), edge()); return;
            case 3: case 4: case 5: tick(1 + source.nextInt(30)); return;
            case 6: tick(source.nextInt(5) > 0 ? 1 + source.nextInt(300) : edge()); return;
            case 7: powerOrFail(); return;
            case 8: commission(); return;
            case 9: send(edge(), edge()); return;
            case 10: case 11: case 12: case 13: told(source.nextInt(4), source.nextInt(32)); return;
            case 14: told(edge(), edge()); return;
            case 15: due("compares()", bus.compares(), model.compares()); return;
            case 16: due("frames()", bus.frames(), model.frames()); return;
            case 17: case 18: case 19: case 20: case 21: send(address() & 0xFE, source.nextInt(256)); return;
            case 22: case 23: case 24: case 25: send(address() | 1, source.nextInt(0x20)); return;
            case 26: case 27: case 28: send(address() | 1, 0x90 + source.nextInt(0x40)); return;
            case 29: case 30: case 31: case 32: case 33: setting(); return;
            default: special();
        }
    }

    private int edge() {
        return EDGES[source.nextInt(EDGES.length)];
    }

    private int address() {
        switch (source.nextInt(4)) {
            case 0: return source.nextInt(8);
            case 1: return 0x80 + source.nextInt(8);
            default: return 0xFE;
        }
    }

    private void send(int a, int b) {
        due("send(" + a + ", " + b + ")", bus.send(a, b), model.send(a, b));
    }

    private void setting() {
        int[] commands = {
            0x20, 0x21, 0x2A, 0x2B, 0x2C, 0x2D, 0x2E, 0x2E, 0x2E, 0x2F, 0x40 + source.nextInt(16),
            0x50 + source.nextInt(16), 0x60 + source.nextInt(4), 0x70 + source.nextInt(4), 0x80,
            0x20 + source.nextInt(0x70)
        };
        if (source.nextBoolean()) {
            send(0xA3, source.nextInt(source.nextBoolean() ? 16 : 256));
        }
        repeat(address() | 1, commands[source.nextInt(commands.length)]);
    }

    private void special() {
        int a = SPECIALS[source.nextInt(SPECIALS.length)];
        int[] bytes = {0, 0, 1, 2, 3, 255, source.nextInt(256)};
        repeat(a, bytes[source.nextInt(bytes.length)]);
    }

    private void repeat(int a, int b) {
        int times = 1 + source.nextInt(4) % 3;
        for (int i = 0; i < times; i++) {
            if (source.nextInt(10) == 0) {
                tick(1);
            }
            send(a, b);
        }
    }

    private void give(int gear, int random) {
        due("give(" + gear + ", " + random + ")", bus.give(gear, random) ? 1 : 0, model.give(gear, random) ? 1 : 0);
    }

    private void tick(int n) {
        due("tick(" + n + ")", bus.tick(n), model.tick(n));
    }

    private void told(int gear, int what) {
        due("told(" + gear + ", " + what + ")", bus.told(gear, what), model.told(gear, what));
    }

    private void powerOrFail() {
        calls++;
        if (source.nextBoolean()) {
            bus.power();
            model.power();
        } else {
            bus.fail();
            model.fail();
        }
    }

    private void commission() {
        int first = source.nextInt(3) > 0 ? source.nextInt(4) : edge();
        due("commission(" + first + ")", bus.commission(first), model.commission(first));
    }
}
