/** Promise 2: gears are numbered as they come, sixteen at most, each as the terms say at first. */
public final class GearTest {
    private static final int[] AT_FIRST = {
        254, 1, 254, 254, 254, 0, 7, 0, 255, 0xFFFFFF, 0, 0xFFFFFF, 0, 0, LampBus.NONE
    };

    public static void main(String[] args) {
        numbersAndLimit();
        valuesAtFirst();
        lateGearIsNew();
        Check.finish();
    }

    private static void numbersAndLimit() {
        LampBus bus = new LampBus();
        for (int i = 0; i < 16; i++) {
            Check.due("told of gear " + i + " before it comes", bus.told(i, 0), LampBus.BAD);
            Check.due("gear() number " + i, bus.gear(), i);
            Check.due("told of gear " + i + " when it is there", bus.told(i, 0), 254);
        }
        Check.due("gear() with 16 there", bus.gear(), LampBus.BAD);
        Check.due("gear() with 16 there, again", bus.gear(), LampBus.BAD);
        Check.due("told(16, 0) behind it", bus.told(16, 0), LampBus.BAD);
        Check.due("told(15, 0) behind it", bus.told(15, 0), 254);
        Check.due("frames() behind gear()", bus.frames(), 0);
    }

    private static void valuesAtFirst() {
        LampBus bus = Check.busOf(16);
        for (int gear = 0; gear < 16; gear++) {
            for (int what = 0; what < AT_FIRST.length; what++) {
                Check.due("told(" + gear + ", " + what + ") at first", bus.told(gear, what), AT_FIRST[what]);
            }
            for (int scene = 0; scene < 16; scene++) {
                Check.due("scene " + scene + " at first", bus.told(gear, 16 + scene), 255);
            }
        }
        LampBus other = Check.busOf(4);
        Check.sendTwice(other, 0xA5, 0);
        Check.sendTwice(other, 0xA7, 0);
        Check.due("the next random number at first", other.told(3, 9), 0);
    }

    private static void lateGearIsNew() {
        LampBus bus = Check.busOf(1);
        bus.send(0xFE, 10);
        bus.send(0xA3, 99);
        Check.setSearch(bus, 0x123456);
        Check.sendTwice(bus, 0xA5, 0);
        bus.gear();
        Check.due("level of a late gear", bus.told(1, 0), 254);
        Check.due("DTR of a late gear", bus.told(1, 10), 0);
        Check.due("SEARCH of a late gear", bus.told(1, 11), 0xFFFFFF);
        Check.due("a late gear initialised", bus.told(1, 12), 0);
        bus.send(0xA5, 0);
        bus.gear();
        bus.send(0xA5, 0);
        Check.due("a gear that came between two frames, by the second", bus.told(2, 12), 1);
    }
}
