/** Promises 4 and 5: GO TO a level, with bounds and fades by ticks. */
public final class SendFadeTest {
    private static final int[] TICKS = {7, 10, 14, 20, 28, 40, 57, 80, 113, 160, 226, 320, 453, 640, 905};

    public static void main(String[] args) {
        boundsAtOnce();
        lengthOfEachFade();
        everyStepOfEachFade();
        belowLeastOnTheWay();
        whatIsAtOnceAllTheSame();
        fadeToItsOwnLevel();
        fadeEndsByOthers();
        fadeGoesOn();
        newFadeFromWhereItIs();
        lengthIsOfTheBegin();
        Check.finish();
    }

    private static LampBus lamp(int least, int most, int fade) {
        LampBus bus = Check.busOf(1);
        Check.set(bus, 0xFF, 0x2A, most);
        Check.set(bus, 0xFF, 0x2B, least);
        Check.set(bus, 0xFF, 0x2E, fade);
        return bus;
    }

    private static void boundsAtOnce() {
        for (int level = 0; level <= 254; level++) {
            LampBus bus = lamp(20, 200, 0);
            bus.send(0xFE, level);
            int want = level == 0 ? 0 : Math.max(20, Math.min(200, level));
            Check.due("level behind " + level, bus.told(0, 0), want);
            Check.due("fades to", bus.told(0, 14), LampBus.NONE);
        }
        LampBus bus = lamp(20, 200, 0);
        bus.send(0xFE, 77);
        bus.send(0xFE, 255);
        Check.due("level behind 255", bus.told(0, 0), 77);
    }

    private static void lengthOfEachFade() {
        for (int fade = 1; fade <= 15; fade++) {
            LampBus bus = lamp(1, 254, fade);
            bus.send(0xFE, 10);
            Check.due("level at the fade's begin", bus.told(0, 0), 254);
            Check.due("level it fades to", bus.told(0, 14), 10);
            Check.due("status at the fade's begin", bus.send(0xFF, 0x90), 4 + 16 + 64);
            Check.due("all ticks but one of fade " + fade, bus.tick(TICKS[fade - 1] - 1), 1);
            Check.due("the last tick of fade " + fade, bus.tick(1), 0);
            Check.due("level at the fade's end", bus.told(0, 0), 10);
            Check.due("fades to at the fade's end", bus.told(0, 14), LampBus.NONE);
            Check.due("status at the fade's end", bus.send(0xFF, 0x90), 4 + 64);
            bus.send(0xFE, 254);
            Check.due("far more ticks than fade " + fade, bus.tick(2000), 0);
            Check.due("level behind them", bus.told(0, 0), 254);
        }
    }

    private static void everyStepOfEachFade() {
        int[][] ways = {{254, 1}, {1, 254}, {100, 200}, {200, 100}, {60, 61}, {61, 60}, {254, 0}, {90, 0}};
        for (int fade = 1; fade <= 15; fade++) {
            for (int[] way : ways) {
                LampBus bus = Check.busOf(1);
                bus.send(0xFE, way[0]);
                Check.set(bus, 0xFF, 0x2E, fade);
                bus.send(0xFE, way[1]);
                int all = TICKS[fade - 1];
                int steps = all < 200 ? all : 200;
                for (int k = 1; k < steps; k++) {
                    int fading = bus.tick(1);
                    int want = way[0] + (int) ((way[1] - way[0]) * (double) k / all + (way[1] > way[0] ? 1e-9 : -1e-9));
                    Check.due("fading at " + k, fading, 1);
                    Check.due("fade " + fade + " from " + way[0] + " to " + way[1] + " at " + k,
                            bus.told(0, 0), Math.max(want, 1));
                }
            }
        }
    }

    private static void belowLeastOnTheWay() {
        LampBus bus = lamp(100, 200, 4);
        bus.send(0xFE, 0);
        Check.due("fades to 0", bus.told(0, 14), 0);
        bus.tick(10);
        Check.due("half the way from 200 to 0", bus.told(0, 0), 100);
        Check.due("one more", bus.tick(1), 1);
        Check.due("LEAST on the way", bus.told(0, 0), 100);
        Check.due("the last but one", bus.tick(8), 1);
        Check.due("LEAST until the end", bus.told(0, 0), 100);
        Check.due("the end", bus.tick(1), 0);
        Check.due("0 at the end", bus.told(0, 0), 0);
    }

    private static void whatIsAtOnceAllTheSame() {
        LampBus bus = lamp(10, 254, 3);
        bus.send(0xFF, 0);
        bus.send(0xFE, 0);
        Check.due("from 0 to 0", bus.told(0, 14), LampBus.NONE);
        bus.send(0xFE, 120);
        Check.due("from 0 at once", bus.told(0, 0), 120);
        Check.due("from 0 without a fade", bus.tick(1), 0);
        bus.send(0xFF, 6);
        bus.send(0xFE, 0);
        Check.due("from LEAST to 0 at once", bus.told(0, 0), 0);
        bus.send(0xFF, 6);
        bus.send(0xFE, 11);
        Check.due("from LEAST to another fades", bus.told(0, 14), 11);
        bus.send(0xFE, 0);
        Check.due("to 0 while it fades, at LEAST yet", bus.told(0, 0), 0);
        Check.due("no fade left", bus.tick(1), 0);
        bus.send(0xFF, 5);
        bus.send(0xFE, 0);
        bus.tick(13);
        Check.due("above LEAST one tick before the end", bus.told(0, 0), 19);
        bus.send(0xFF, 6);
        bus.send(0xFF, 8);
        bus.send(0xFE, 0);
        Check.due("from above LEAST to 0 fades", bus.told(0, 14), 0);
        bus.tick(2);
        Check.due("at LEAST on the way to 0", bus.told(0, 0), 10);
        bus.send(0xFE, 0);
        Check.due("to 0 again at LEAST: at once", bus.told(0, 0), 0);
        Check.due("no fade then", bus.told(0, 14), LampBus.NONE);
    }

    private static void fadeToItsOwnLevel() {
        LampBus bus = lamp(1, 254, 1);
        bus.send(0xFE, 254);
        Check.due("a fade to its own level", bus.told(0, 14), 254);
        Check.due("it lasts as any", bus.tick(6), 1);
        Check.due("it ends as any", bus.tick(1), 0);
        bus = lamp(30, 90, 1);
        bus.send(0xFE, 200);
        Check.due("fades to MOST", bus.told(0, 14), 90);
        bus.send(0xFE, 5);
        Check.due("fades to LEAST", bus.told(0, 14), 30);
    }

    private static void fadeEndsByOthers() {
        int[] ending = {0, 1, 2, 3, 4, 5, 6, 7, 8};
        for (int command : ending) {
            LampBus bus = lamp(1, 254, 5);
            bus.send(0xFE, 100);
            bus.tick(14);
            bus.send(0xFF, command);
            Check.due("fades behind command " + command, bus.told(0, 14), LampBus.NONE);
            Check.due("ticks behind command " + command, bus.tick(5), 0);
        }
        int[] settings = {0x20, 0x2A, 0x2B};
        for (int command : settings) {
            LampBus bus = lamp(1, 254, 5);
            bus.send(0xA3, command == 0x2B ? 1 : 254);
            bus.send(0xFE, 100);
            bus.tick(14);
            bus.send(0xFF, command);
            Check.due("fades to behind one frame " + command, bus.told(0, 14), 100);
            bus.send(0xFF, command);
            Check.due("fades to behind " + command + " twice", bus.told(0, 14), LampBus.NONE);
            Check.due("level behind " + command, bus.told(0, 0), command == 0x20 ? 254 : 177);
        }
        LampBus bus = lamp(1, 254, 5);
        bus.send(0xFE, 100);
        bus.tick(14);
        bus.send(0xFE, 255);
        Check.due("level behind 255", bus.told(0, 0), 177);
        Check.due("fading behind 255", bus.tick(1), 0);
        Check.due("level stays behind 255", bus.told(0, 0), 177);
    }

    private static void fadeGoesOn() {
        LampBus bus = lamp(1, 254, 5);
        bus.send(0xFE, 100);
        bus.send(0xFF, 9);
        bus.send(0xFF, 0x0F);
        bus.send(0xFF, 0x13);
        bus.send(0xFF, 0xA0);
        Check.set(bus, 0xFF, 0x2C, 3);
        Check.set(bus, 0xFF, 0x2D, 3);
        Check.set(bus, 0xFF, 0x2F, 3);
        Check.set(bus, 0xFF, 0x44, 3);
        Check.sendTwice(bus, 0xFF, 0x21);
        Check.sendTwice(bus, 0xFF, 0x30);
        Check.due("fades to behind what does not set the level", bus.told(0, 14), 100);
        Check.due("it goes on", bus.tick(27), 1);
        Check.due("it ends in its time", bus.tick(1), 0);
    }

    private static void newFadeFromWhereItIs() {
        LampBus bus = lamp(1, 254, 4);
        bus.send(0xFE, 54);
        bus.tick(10);
        Check.due("half the way", bus.told(0, 0), 154);
        bus.send(0xFE, 254);
        Check.due("a new end", bus.told(0, 14), 254);
        bus.tick(1);
        Check.due("the first tick of the new fade", bus.told(0, 0), 159);
        Check.due("it has its whole time", bus.tick(18), 1);
        Check.due("and ends", bus.tick(1), 0);
        bus.send(0xFE, 54);
        bus.tick(3);
        Check.set(bus, 0xFF, 0x2E, 0);
        bus.send(0xFE, 60);
        Check.due("FADE 0 in a fade: at once", bus.told(0, 0), 60);
        Check.due("FADE 0 in a fade: it ends", bus.tick(1), 0);
    }

    private static void lengthIsOfTheBegin() {
        LampBus bus = lamp(1, 254, 4);
        bus.send(0xFE, 54);
        bus.tick(10);
        Check.set(bus, 0xFF, 0x2E, 15);
        bus.tick(1);
        Check.due("the fade goes on with its T", bus.told(0, 0), 144);
        Check.set(bus, 0xFF, 0x2E, 0);
        Check.due("FADE 0 leaves it", bus.tick(8), 1);
        Check.due("its end", bus.tick(1), 0);
        Check.due("its end's level", bus.told(0, 0), 54);
    }
}
