/** Promise 1: a new object has no gears, and so nothing answers. */
public final class NewObjectTest {
    public static void main(String[] args) {
        LampBus bus = new LampBus();
        Check.due("frames() of a new bus", bus.frames(), 0);
        Check.due("compares() of a new bus", bus.compares(), 0);
        Check.due("told(0, 0) of a new bus", bus.told(0, 0), LampBus.BAD);
        Check.due("give(0, 0) of a new bus", bus.give(0, 0), false);
        Check.due("tick(1) of a new bus", bus.tick(1), 0);
        for (int a = 0; a <= 255; a++) {
            Check.due("send(" + a + ", 0x91) without gears", bus.send(a, 0x91), LampBus.NONE);
        }
        bus.power();
        bus.fail();
        Check.due("commission(0) without gears", bus.commission(0), 0);
        Check.due("gear() as the first", bus.gear(), 0);
        Check.due("gear() of another bus", new LampBus().gear(), 0);
        Check.finish();
    }
}
