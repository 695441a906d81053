/** Promise 10: address. */
final class AddressTest {
    private static final Check check = new Check();

    public static void main(String[] args) {
        refusesOtherNumbers();
        isTheLeastFreeOne();
        isThereWhileGoing();
        isFreeAgain();
        check.end();
    }

    /** "0 for others, -1 when there is no such port." */
    private static void refusesOtherNumbers() {
        PluggedBus bus = Buses.withDisk(1, 0);
        int[] wrong = {-1, 6, Integer.MIN_VALUE, Integer.MAX_VALUE};
        for (int port : wrong) {
            check.due("address(" + port + ")", bus.address(port), -1);
        }
        check.due("address(0)", bus.address(0), 1);
        check.due("an empty port", bus.address(1), 0);
        for (int port = 2; port < 6; port++) {
            check.due("a port whose hub is not there, " + port, bus.address(port), 0);
        }
    }

    private static void isTheLeastFreeOne() {
        PluggedBus bus = new PluggedBus();
        bus.plug(1, Buses.HUB, 0, 0);
        bus.plug(5, Buses.DISK, 1, 0);
        bus.plug(4, Buses.DISK, 1, 0);
        bus.run(3);
        bus.plug(0, Buses.DISK, 1, 0);
        bus.run(1);
        int[] due = {4, 1, 0, 0, 2, 3};
        for (int port = 0; port < 6; port++) {
            check.due("address(" + port + ")", bus.address(port), due[port]);
        }
        bus.unplug(4);
        bus.run(1);
        bus.plug(4, Buses.DISK, 1, 0);
        bus.run(1);
        check.due("2 was free", bus.address(4), 2);
        bus.unplug(0);
        bus.unplug(5);
        bus.plug(5, Buses.DISK, 1, 0);
        bus.run(1);
        check.due("3 and 4 were free", bus.address(5), 3);
    }

    /** "The address of a GOING or READY port". */
    private static void isThereWhileGoing() {
        PluggedBus bus = new PluggedBus();
        bus.plug(0, Buses.DISK, 1, 0);
        bus.plug(1, Buses.DISK, 1, 0);
        check.due("before a frame", bus.address(0), 0);
        Buses.spoilRow(bus, 7, 2, Buses.TOKEN);
        Buses.spoilRow(bus, 10, 1, Buses.TOKEN);
        bus.run(1);
        check.due("GOING", bus.view(1), Buses.GOING);
        check.due("its address", bus.address(1), 2);
        bus = Buses.withHub();
        bus.plug(1, Buses.DISK, 1, 0);
        bus.plug(2, Buses.DISK, 1, 0);
        bus.plug(3, Buses.DISK, 1, 0);
        bus.run(1);
        check.due("WAITS", bus.view(3), Buses.WAITS);
        check.due("no address", bus.address(3), 0);
    }

    private static void isFreeAgain() {
        PluggedBus bus = Buses.withHubAnd(Buses.DISK, 1, 0);
        bus.unplug(0);
        check.due("the host does not know yet", bus.address(0), 1);
        check.due("nor of the port behind", bus.address(2), 2);
        bus.run(1);
        check.due("now it does", bus.address(0), 0);
        check.due("of both", bus.address(2), 0);
        bus.plug(1, Buses.DISK, 1, 0);
        bus.run(1);
        check.due("1 is free", bus.address(1), 1);
        bus = Buses.withKeys(1, 1);
        Buses.spoilRow(bus, 1, 3, Buses.TOKEN);
        bus.run(3);
        check.due("failed", bus.address(0), 0);
        bus.plug(1, Buses.DISK, 1, 0);
        bus.run(1);
        check.due("its address is free", bus.address(1), 1);
    }
}
