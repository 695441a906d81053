/** Promise 16: load. */
final class LoadTest {
    public static void main(String[] args) {
        Check check = new Check();
        PluggedBus bus = new PluggedBus();
        check.due("nothing", bus.load(), 0);
        bus.plug(0, Buses.HUB, 0, 0);
        bus.plug(2, Buses.KEYS, 8, 17);
        bus.plug(3, Buses.DISK, 8, 3);
        check.due("before a frame", bus.load(), 0);
        bus.run(1);
        check.due("the hub", bus.load(), 4);
        bus.run(1);
        check.due("and KEYS, also while not polled", bus.load(), 21);
        check.due("the disk is GOING", bus.view(3), Buses.GOING);
        bus.run(1);
        check.due("a disk costs nothing", bus.load(), 21);
        bus.plug(1, Buses.KEYS, 1, 60);
        bus.run(1);
        check.due("and KEYS in port 1", bus.load(), 81);
        bus.unplug(2);
        check.due("the host does not know yet", bus.load(), 81);
        bus.run(1);
        check.due("now it does", bus.load(), 64);
        bus.unplug(0);
        bus.run(1);
        check.due("KEYS in port 1 alone", bus.load(), 60);
        Buses.spoilRow(bus, 1, 3, Buses.DATA);
        bus.run(3);
        check.due("failed", bus.load(), 0);
        check.end();
    }
}
