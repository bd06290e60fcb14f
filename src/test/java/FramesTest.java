/** Promise 11: frames counts every frame, of send and of commission, and nothing else. */
public final class FramesTest {
    public static void main(String[] args) {
        LampBus bus = new LampBus();
        Check.due("at first", bus.frames(), 0);
        for (int a = 0; a <= 255; a++) {
            bus.send(a, 255 - a);
        }
        Check.due("behind a frame to each address", bus.frames(), 256);
        bus = Check.busOf(1);
        for (int b = 0; b <= 255; b++) {
            bus.send(0xFF, b);
        }
        Check.due("behind a frame of each command", bus.frames(), 256);
        bus = Check.busOf(1);
        bus.send(256, 0);
        bus.send(0, 256);
        bus.send(-1, 0);
        bus.send(0, -1);
        bus.tick(5);
        bus.power();
        bus.fail();
        bus.give(0, 1);
        bus.told(0, 0);
        bus.compares();
        bus.commission(-1);
        Check.due("behind what is no frame", bus.frames(), 0);
        bus.commission(0);
        Check.due("behind a commission of one", bus.frames(), 114);
        Check.due("asked again", bus.frames(), 114);
        bus.send(0xFF, 0x2E);
        bus.send(0xFF, 0x2E);
        Check.due("a frame sent twice counts two", bus.frames(), 116);
        Check.due("another bus has its own", new LampBus().frames(), 0);
        Check.finish();
    }
}
