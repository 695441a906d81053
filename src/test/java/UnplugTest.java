/** Promise 3: unplug. */
final class UnplugTest {
    private static final Check check = new Check();

    public static void main(String[] args) {
        refusesWhereThereIsNone();
        takesTheDeviceOut();
        takesAHubWithItsDevices();
        isToldByTheHub();
        isNotToldByAHubThatIsNotConfigured();
        isToldAsChangedAndFullAfterAnExchange();
        takesOnlyTheDeviceBehindAHub();
        check.end();
    }

    /** "False when there is none." */
    private static void refusesWhereThereIsNone() {
        int[] ports = {-1, 0, 1, 2, 3, 4, 5, 6, Integer.MIN_VALUE, Integer.MAX_VALUE};
        PluggedBus bus = new PluggedBus();
        for (int port : ports) {
            check.due("unplug(" + port + ")", bus.unplug(port), false);
        }
        check.due("nothing has changed", bus.run(1), 0);
    }

    /** "Takes the device out of a port". */
    private static void takesTheDeviceOut() {
        PluggedBus bus = Buses.withDisk(4, 0);
        bus.write(0, 0, 1, 6);
        bus.run(1);
        check.due("unplug(0)", bus.unplug(0), true);
        check.due("unplug(0) again", bus.unplug(0), false);
        check.due("no disk", bus.image(0, 0), 0);
        check.due("the host does not know yet", bus.view(0), Buses.READY);
        check.due("no transaction", bus.run(1), 0);
        check.due("now it does", bus.view(0), Buses.NOTHING);
        check.due("the port can be used again", bus.plug(0, Buses.KEYS, 1, 1), true);
    }

    /** "a HUB with the devices in its ports". */
    private static void takesAHubWithItsDevices() {
        PluggedBus bus = Buses.withHub();
        bus.plug(2, Buses.DISK, 4, 0);
        bus.plug(3, Buses.KEYS, 1, 1);
        bus.run(2);
        check.due("port 2", bus.view(2), Buses.READY);
        check.due("port 3", bus.view(3), Buses.READY);
        bus.write(2, 0, 1, 5);
        bus.run(1);
        check.due("its block", bus.image(2, 0), 5);
        check.due("unplug(0)", bus.unplug(0), true);
        check.due("no block", bus.image(2, 0), 0);
        check.due("no device in port 2", bus.unplug(2), false);
        check.due("no keys in port 3", bus.press(3, 1), false);
        check.due("the host's view stays", bus.view(3), Buses.READY);
        bus.plug(0, Buses.HUB, 0, 0);
        check.due("port 2 is empty again", bus.plug(2, Buses.DISK, 2, 0), true);
        check.due("the hub, then nothing of port 3", bus.run(2), 6 + 1 + 6);
        check.due("port 2 is new", bus.view(2), Buses.READY);
        check.due("port 3 is empty", bus.view(3), Buses.NOTHING);
        check.due("the hub alone costs", bus.load(), 4);
    }

    /** A configured HUB tells of it. */
    private static void isToldByTheHub() {
        PluggedBus bus = Buses.withHubAnd(Buses.DISK, 4, 0);
        check.due("unplug(2)", bus.unplug(2), true);
        check.due("the host does not know yet", bus.view(2), Buses.READY);
        check.due("one poll", bus.run(1), 1);
        check.due("now it does", bus.view(2), Buses.NOTHING);
        check.due("its address is free", bus.address(2), 0);
    }

    /** A HUB that is not configured does not. */
    private static void isNotToldByAHubThatIsNotConfigured() {
        PluggedBus bus = new PluggedBus();
        bus.plug(0, Buses.HUB, 0, 0);
        bus.plug(2, Buses.DISK, 1, 0);
        bus.plug(3, Buses.DISK, 1, 0);
        bus.unplug(3);
        check.due("enumeration, a poll, enumeration", bus.run(2), 13);
        check.due("port 2", bus.view(2), Buses.READY);
        check.due("port 3", bus.view(3), Buses.NOTHING);
        check.due("the hub has nothing more to tell", bus.run(1), 1);
    }

    /** Another device in its place is a change, too. */
    private static void isToldAsChangedAndFullAfterAnExchange() {
        PluggedBus bus = Buses.withHubAnd(Buses.DISK, 8, 0);
        bus.unplug(2);
        bus.plug(2, Buses.KEYS, 1, 7);
        check.due("a poll, enumeration", bus.run(1), 7);
        check.due("the new device's cost", bus.load(), 11);
        bus = Buses.withDisk(8, 0);
        bus.unplug(0);
        bus.plug(0, Buses.KEYS, 1, 7);
        check.due("enumeration", bus.run(1), 6);
        check.due("the new device's cost in port 0", bus.load(), 7);
    }

    /** "a HUB with the devices in its ports": in its own ports alone. */
    private static void takesOnlyTheDeviceBehindAHub() {
        PluggedBus bus = Buses.withHub();
        bus.plug(1, Buses.HUB, 0, 0);
        bus.plug(4, Buses.KEYS, 1, 1);
        bus.plug(3, Buses.KEYS, 1, 1);
        bus.unplug(1);
        check.due("the other hub's device stays", bus.press(3, 1), true);
        check.due("this hub's device went", bus.unplug(4), false);
        bus = Buses.withHub();
        bus.plug(1, Buses.HUB, 0, 0);
        bus.plug(4, Buses.DISK, 1, 0);
        bus.plug(3, Buses.HUB, 0, 0);
        check.due("a hub behind a hub", bus.unplug(3), true);
        check.due("takes nothing with it", bus.unplug(4), true);
    }
}
