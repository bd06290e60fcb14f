/** Promise 4: what each setting does when it is sent twice. */
public final class SendSettingTest {
    public static void main(String[] args) {
        reset();
        levelIntoDtr();
        bounds();
        boundsAndLevel();
        plainBytes();
        fadeAndRate();
        scenes();
        groups();
        shortAddress();
        nothing();
        Check.finish();
    }

    private static void reset() {
        LampBus bus = Check.busOf(1);
        bus.give(0, 0x123456);
        bus.commission(17);
        int[] settings = {0x2B, 0x2C, 0x2D, 0x2E, 0x2F, 0x40, 0x4F, 0x2A};
        for (int i = 0; i < settings.length; i++) {
            Check.set(bus, 0xFF, settings[i], 3 + i);
        }
        Check.sendTwice(bus, 0xFF, 0x65);
        Check.setSearch(bus, 0x123456);
        Check.sendTwice(bus, 0xA5, 0);
        bus.send(0xAB, 0);
        bus.send(0xFE, 5);
        Check.sendTwice(bus, 0xFF, 0x20);
        int[] want = {254, 1, 254, 254, 254, 0, 7, 0, 17, 0xFFFFFF, 10, 0x123456, 1, 1, LampBus.NONE};
        for (int what = 0; what < want.length; what++) {
            Check.due("told " + what + " behind reset", bus.told(0, what), want[what]);
        }
        for (int scene = 0; scene < 16; scene++) {
            Check.due("scene " + scene + " behind reset", bus.told(0, 16 + scene), 255);
        }
        Check.sendTwice(bus, 0xA7, 0);
        Check.due("the next random number behind reset", bus.told(0, 9), 0x123456);
    }

    private static void levelIntoDtr() {
        LampBus bus = Check.busOf(1);
        bus.send(0xFE, 123);
        Check.sendTwice(bus, 0xFF, 0x21);
        Check.due("DTR", bus.told(0, 10), 123);
        Check.due("level", bus.told(0, 0), 123);
    }

    private static void bounds() {
        for (int dtr = 0; dtr <= 255; dtr++) {
            LampBus bus = Check.busOf(1);
            Check.set(bus, 0xFF, 0x2A, 200);
            Check.set(bus, 0xFF, 0x2B, 50);
            Check.set(bus, 0xFF, 0x2A, dtr);
            Check.due("MOST by " + dtr, bus.told(0, 2), Math.max(50, Math.min(254, dtr)));
            Check.due("LEAST stays", bus.told(0, 1), 50);
            Check.set(bus, 0xFF, 0x2A, 200);
            Check.set(bus, 0xFF, 0x2B, dtr);
            Check.due("LEAST by " + dtr, bus.told(0, 1), Math.max(1, Math.min(200, dtr)));
            Check.due("MOST stays", bus.told(0, 2), 200);
        }
    }

    private static void boundsAndLevel() {
        LampBus bus = Check.busOf(1);
        Check.set(bus, 0xFF, 0x2E, 5);
        Check.set(bus, 0xFF, 0x2A, 100);
        Check.due("level by MOST at once, also with FADE", bus.told(0, 0), 100);
        Check.due("no fade by MOST", bus.told(0, 14), LampBus.NONE);
        bus.send(0xFF, 6);
        Check.set(bus, 0xFF, 0x2B, 30);
        Check.due("level by LEAST at once, also with FADE", bus.told(0, 0), 30);
        Check.due("no fade by LEAST", bus.told(0, 14), LampBus.NONE);
        Check.set(bus, 0xFF, 0x2A, 150);
        Check.due("level within stays by MOST", bus.told(0, 0), 30);
        Check.set(bus, 0xFF, 0x2B, 1);
        Check.due("level within stays by LEAST", bus.told(0, 0), 30);
        bus.send(0xFF, 0);
        Check.set(bus, 0xFF, 0x2B, 40);
        Check.due("level 0 stays by LEAST", bus.told(0, 0), 0);
        Check.set(bus, 0xFF, 0x2A, 60);
        Check.due("level 0 stays by MOST", bus.told(0, 0), 0);
    }

    private static void plainBytes() {
        LampBus bus = Check.busOf(1);
        int[] bytes = {0, 1, 77, 254, 255};
        for (int value : bytes) {
            Check.set(bus, 0xFF, 0x2C, value);
            Check.due("FAIL", bus.told(0, 4), value);
            Check.set(bus, 0xFF, 0x2D, 255 - value);
            Check.due("POWER", bus.told(0, 3), 255 - value);
            Check.due("FAIL stays", bus.told(0, 4), value);
        }
        Check.due("level stays", bus.told(0, 0), 254);
    }

    private static void fadeAndRate() {
        LampBus bus = Check.busOf(1);
        int[] bytes = {0, 1, 14, 15, 16, 17, 255};
        for (int value : bytes) {
            Check.set(bus, 0xFF, 0x2E, value);
            Check.due("FADE by " + value, bus.told(0, 5), Math.min(15, value));
            Check.set(bus, 0xFF, 0x2F, value);
            Check.due("RATE by " + value, bus.told(0, 6), Math.max(1, Math.min(15, value)));
            Check.due("FADE stays", bus.told(0, 5), Math.min(15, value));
        }
    }

    private static void scenes() {
        LampBus bus = Check.busOf(1);
        for (int scene = 0; scene < 16; scene++) {
            Check.set(bus, 0xFF, 0x40 + scene, 100 + scene);
        }
        for (int scene = 0; scene < 16; scene++) {
            Check.due("scene " + scene, bus.told(0, 16 + scene), 100 + scene);
        }
        Check.due("level stays", bus.told(0, 0), 254);
        for (int scene = 0; scene < 16; scene++) {
            Check.sendTwice(bus, 0xFF, 0x50 + scene);
            Check.due("scene " + scene + " is none", bus.told(0, 16 + scene), 255);
            if (scene < 15) {
                Check.due("the next scene stays", bus.told(0, 17 + scene), 101 + scene);
            }
        }
        Check.set(bus, 0xFF, 0x47, 255);
        Check.due("a scene by DTR 255", bus.told(0, 23), 255);
    }

    private static void groups() {
        LampBus bus = Check.busOf(1);
        int groups = 0;
        for (int group = 0; group < 16; group++) {
            Check.sendTwice(bus, 0xFF, 0x60 + group);
            groups |= 1 << group;
            Check.due("groups with " + group, bus.told(0, 7), groups);
        }
        Check.sendTwice(bus, 0xFF, 0x63);
        Check.due("into a group again", bus.told(0, 7), groups);
        for (int group = 15; group >= 0; group--) {
            Check.sendTwice(bus, 0xFF, 0x70 + group);
            groups &= ~(1 << group);
            Check.due("groups without " + group, bus.told(0, 7), groups);
        }
        Check.sendTwice(bus, 0xFF, 0x73);
        Check.due("out of a group again", bus.told(0, 7), 0);
    }

    private static void shortAddress() {
        for (int dtr = 0; dtr <= 255; dtr++) {
            LampBus bus = Check.busOf(1);
            Check.set(bus, 0xFF, 0x80, dtr);
            int code = dtr % 2 == 1 && dtr < 128 ? dtr : 255;
            Check.due("SHORT by " + dtr + " from none", bus.told(0, 8), code == 255 ? 255 : (code - 1) / 2);
            Check.set(bus, 0xFF, 0x80, 25);
            Check.set(bus, 0xFF, 0x80, dtr);
            int want = code == 255 ? 12 : (code - 1) / 2;
            Check.due("SHORT by " + dtr + " from 12", bus.told(0, 8), dtr == 255 ? 255 : want);
        }
    }

    private static void nothing() {
        LampBus bus = Check.busOf(1);
        int[] without = new int[64];
        int count = 0;
        for (int command = 0x22; command <= 0x8F; command++) {
            boolean free = command <= 0x29 || command >= 0x30 && command < 0x40 || command > 0x80;
            if (free) {
                without[count++] = command;
            }
        }
        bus.send(0xA3, 33);
        for (int i = 0; i < count; i++) {
            Check.sendTwice(bus, 0xFF, without[i]);
        }
        int[] want = {254, 1, 254, 254, 254, 0, 7, 0, 255, 0xFFFFFF, 33, 0xFFFFFF, 0, 0, LampBus.NONE};
        for (int what = 0; what < want.length; what++) {
            Check.due("told " + what + " behind what is no setting", bus.told(0, what), want[what]);
        }
        for (int scene = 0; scene < 16; scene++) {
            Check.due("scene " + scene + " behind what is no setting", bus.told(0, 16 + scene), 255);
        }
    }
}
