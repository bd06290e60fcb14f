/** Promise 9: compares tells of the last commission alone. */
public final class ComparesTest {
    public static void main(String[] args) {
        LampBus bus = Check.busOf(1);
        Check.due("before any commission", bus.compares(), 0);
        Check.sendTwice(bus, 0xA5, 0);
        bus.send(0xA9, 0);
        Check.due("behind A9 by send", bus.compares(), 0);
        bus.commission(0);
        Check.due("with one gear", bus.compares(), 26);
        bus.send(0xA9, 0);
        bus.tick(1);
        bus.power();
        bus.fail();
        Check.due("as it was", bus.compares(), 26);
        Check.due("as it was, asked again", bus.compares(), 26);
        bus.gear();
        bus.give(1, 5);
        bus.commission(0);
        Check.due("with two gears", bus.compares(), 51);
        bus.commission(63);
        Check.due("with one address", bus.compares(), 25);
        bus.commission(64);
        Check.due("behind a commission that was refused", bus.compares(), 25);
        LampBus empty = new LampBus();
        empty.commission(5);
        Check.due("without gears", empty.compares(), 1);
        Check.finish();
    }
}
