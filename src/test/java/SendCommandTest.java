/** Promise 4: the commands that act on the level. */
public final class SendCommandTest {
    private static final int[] STEPS = {72, 51, 36, 25, 18, 13, 9, 6, 4, 3, 2, 2, 1, 1, 1};

    public static void main(String[] args) {
        everyLevel(1, 254);
        everyLevel(30, 90);
        everyLevel(254, 254);
        everyRate();
        scenes();
        onlyThoseMeant();
        Check.finish();
    }

    private static int within(int level, int least, int most) {
        return Math.max(least, Math.min(most, level));
    }

    private static void everyLevel(int least, int most) {
        for (int level = 0; level <= most; level = level == 0 ? least : level + 1) {
            LampBus bus = Check.busOf(1);
            Check.set(bus, 0xFF, 0x2A, most);
            Check.set(bus, 0xFF, 0x2B, least);
            int[] want = {
                0,
                level == 0 ? 0 : within(level + 9, least, most),
                level == 0 ? 0 : within(level - 9, least, most),
                level == 0 ? 0 : within(level + 1, least, most),
                level == 0 ? 0 : within(level - 1, least, most),
                most,
                least,
                level <= least ? 0 : level - 1,
                level == 0 ? least : within(level + 1, least, most),
                level, level, level, level, level, level, level
            };
            for (int command = 0; command < want.length; command++) {
                if (bus.told(0, 0) != level) {
                    bus.send(0xFE, level);
                }
                Check.due("the level before", bus.told(0, 0), level);
                Check.due("answer to " + command, bus.send(0xFF, command), LampBus.NONE);
                Check.due("command " + command + " at " + level + " of " + least + " .. " + most,
                        bus.told(0, 0), want[command]);
            }
        }
    }

    private static void everyRate() {
        for (int rate = 1; rate <= 15; rate++) {
            LampBus bus = Check.busOf(1);
            Check.set(bus, 0xFF, 0x2F, rate);
            bus.send(0xFE, 100);
            bus.send(0xFF, 1);
            Check.due("up by rate " + rate, bus.told(0, 0), 100 + STEPS[rate - 1]);
            bus.send(0xFF, 2);
            bus.send(0xFF, 2);
            Check.due("down by rate " + rate, bus.told(0, 0), 100 - STEPS[rate - 1]);
            bus.send(0xFE, STEPS[rate - 1]);
            bus.send(0xFF, 2);
            Check.due("down to LEAST, not to 0", bus.told(0, 0), 1);
        }
    }

    private static void scenes() {
        LampBus bus = Check.busOf(1);
        Check.set(bus, 0xFF, 0x2A, 200);
        for (int scene = 0; scene < 16; scene++) {
            bus.send(0xFF, 0x10 + scene);
            Check.due("a scene of none", bus.told(0, 0), 200);
        }
        for (int scene = 0; scene < 16; scene++) {
            Check.set(bus, 0xFF, 0x40 + scene, 10 * scene);
        }
        Check.set(bus, 0xFF, 0x4F, 230);
        for (int scene = 0; scene < 15; scene++) {
            bus.send(0xFF, 0x10 + scene);
            Check.due("scene " + scene, bus.told(0, 0), 10 * scene);
        }
        bus.send(0xFF, 0x1F);
        Check.due("a scene above MOST", bus.told(0, 0), 200);
        Check.set(bus, 0xFF, 0x2E, 4);
        bus.send(0xFF, 0x1A);
        Check.due("a scene is faded to", bus.told(0, 14), 100);
        bus.tick(10);
        Check.due("half the way to a scene", bus.told(0, 0), 150);
        Check.sendTwice(bus, 0xFF, 0x5B);
        bus.send(0xFF, 0x1B);
        Check.due("a scene of none leaves the fade", bus.told(0, 14), 100);
        bus.send(0xFF, 0x10);
        Check.due("a scene of level 0 is faded to", bus.told(0, 14), 0);
    }

    private static void onlyThoseMeant() {
        LampBus bus = Check.busOf(2);
        Check.giveShortAddresses(bus, 2);
        for (int command = 0; command <= 8; command++) {
            bus.send(0xFE, 100);
            bus.send(3, command);
            Check.due("the other behind command " + command, bus.told(0, 0), 100);
        }
    }
}
