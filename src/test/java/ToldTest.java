/** Promise 10: told gives each value of a gear, and refuses what there is not. */
public final class ToldTest {
    public static void main(String[] args) {
        refusals();
        eachValueIsOfItsOwnGear();
        changesNothing();
        Check.finish();
    }

    private static void refusals() {
        LampBus bus = Check.busOf(2);
        int[] gears = {-1, 2, 15, 16, Integer.MIN_VALUE, Integer.MAX_VALUE};
        for (int gear : gears) {
            for (int what = 0; what < 32; what++) {
                Check.due("told(" + gear + ", " + what + ")", bus.told(gear, what), LampBus.BAD);
            }
        }
        int[] whats = {-1, 15, 32, 33, 255, Integer.MIN_VALUE, Integer.MAX_VALUE};
        for (int what : whats) {
            Check.due("told(1, " + what + ")", bus.told(1, what), LampBus.BAD);
        }
    }

    private static void eachValueIsOfItsOwnGear() {
        LampBus bus = Check.busOf(2);
        Check.giveShortAddresses(bus, 2);
        int[] settings = {0x2B, 0x2C, 0x2D, 0x2E, 0x2F, 0x2A};
        for (int i = 0; i < settings.length; i++) {
            Check.set(bus, 3, settings[i], 5 + i);
        }
        for (int scene = 0; scene < 16; scene++) {
            Check.set(bus, 3, 0x40 + scene, 100 + scene);
        }
        Check.sendTwice(bus, 3, 0x62);
        Check.sendTwice(bus, 3, 0x6F);
        Check.sendTwice(bus, 0xA5, 3);
        bus.send(2, 6);
        int[] of0 = {254, 1, 254, 254, 254, 0, 7, 0, 0, 0, 115, 0xFFFFFF, 0, 1, LampBus.NONE};
        int[] of1 = {10, 5, 10, 7, 6, 8, 9, 0x8004, 1, 1, 115, 0xFFFFFF, 1, 0, 6};
        for (int what = 0; what < 15; what++) {
            Check.due("told(0, " + what + ")", bus.told(0, what), of0[what]);
            Check.due("told(1, " + what + ")", bus.told(1, what), of1[what]);
        }
        for (int scene = 0; scene < 16; scene++) {
            Check.due("scene " + scene + " of 0", bus.told(0, 16 + scene), 255);
            Check.due("scene " + scene + " of 1", bus.told(1, 16 + scene), 100 + scene);
        }
    }

    private static void changesNothing() {
        LampBus bus = Check.busOf(1);
        for (int what = -3; what < 40; what++) {
            int once = bus.told(0, what);
            Check.due("told again", bus.told(0, what), once);
        }
        Check.due("frames() behind told()", bus.frames(), 0);
    }
}
