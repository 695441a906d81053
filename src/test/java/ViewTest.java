/** Promise 9: view. */
final class ViewTest {
    private static final Check check = new Check();

    public static void main(String[] args) {
        refusesOtherNumbers();
        waitsAndGoes();
        failsWithFaultsInEnumeration();
        failsWithFaultsInPolls();
        failsWithTier();
        failsWithAddresses();
        failsWithBudget();
        staysFailedUntilAChange();
        followsTheHub();
        check.end();
    }

    /** "-1 for another number." */
    private static void refusesOtherNumbers() {
        PluggedBus bus = Buses.withHub();
        int[] wrong = {-1, 6, Integer.MIN_VALUE, Integer.MAX_VALUE};
        for (int port : wrong) {
            check.due("view(" + port + ")", bus.view(port), -1);
        }
        check.due("a port whose hub is not there", bus.view(4), Buses.NOTHING);
        check.due("a hub's empty port", bus.view(3), Buses.NOTHING);
    }

    private static void waitsAndGoes() {
        PluggedBus bus = Buses.withHub();
        for (int port = 1; port <= 3; port++) {
            bus.plug(port, Buses.DISK, 1, 0);
            check.due("before a frame: " + port, bus.view(port), Buses.NOTHING);
        }
        check.due("a poll, 96 units", bus.run(1), 1 + 9);
        check.due("the least is READY", bus.view(1), Buses.READY);
        check.due("the next is GOING", bus.view(2), Buses.GOING);
        check.due("the last WAITS", bus.view(3), Buses.WAITS);
        check.due("a poll, the rest", bus.run(1), 1 + 9);
        check.due("port 3", bus.view(3), Buses.READY);
    }

    private static void failsWithFaultsInEnumeration() {
        for (int first = 1; first <= 6; first++) {
            for (int part = 0; part <= 1; part++) {
                PluggedBus bus = new PluggedBus();
                bus.plug(0, Buses.DISK, 1, 0);
                Buses.spoilRow(bus, first, 3, part);
                check.due("three faults from " + first + " on", bus.run(1), first + 2);
                check.due("FAULTS", bus.view(0), Buses.FAULTS);
                check.due("no address", bus.address(0), 0);
            }
        }
        PluggedBus bus = new PluggedBus();
        bus.plug(0, Buses.DISK, 1, 0);
        Buses.spoilRow(bus, 1, 2, Buses.TOKEN);
        Buses.spoilRow(bus, 4, 2, Buses.DATA);
        check.due("two and two", bus.run(1), 10);
        check.due("READY", bus.view(0), Buses.READY);
    }

    private static void failsWithFaultsInPolls() {
        PluggedBus bus = Buses.withHubAnd(Buses.KEYS, 1, 1);
        bus.plug(1, Buses.DISK, 1, 0);
        bus.run(1);
        bus.spoil(1, Buses.TOKEN);
        bus.spoil(3, Buses.DATA);
        bus.spoil(5, Buses.TOKEN);
        check.due("the hub faults at last, its KEYS go with it", bus.run(3), 5);
        check.due("the hub", bus.view(0), Buses.FAULTS);
        check.due("its KEYS", bus.view(2), Buses.NOTHING);
        check.due("the disk stays", bus.view(1), Buses.READY);
        bus = Buses.withHubAnd(Buses.KEYS, 1, 1);
        bus.spoil(2, Buses.TOKEN);
        bus.spoil(4, Buses.DATA);
        bus.spoil(6, Buses.TOKEN);
        check.due("the KEYS fault", bus.run(3), 6);
        check.due("the hub stays", bus.view(0), Buses.READY);
        check.due("its KEYS", bus.view(2), Buses.FAULTS);
    }

    private static void failsWithTier() {
        PluggedBus bus = Buses.withHubAnd(Buses.HUB, 0, 0);
        check.due("enumeration up to the description", bus.transactions(), 6 + 1 + 4);
        check.due("TIER", bus.view(2), Buses.TIER);
        check.due("no address", bus.address(2), 0);
        check.due("no cost", bus.load(), 4);
        PluggedBus full = Buses.withHub();
        full.plug(1, Buses.KEYS, 1, 60);
        full.run(1);
        full.plug(2, Buses.KEYS, 8, 26);
        full.run(3);
        check.due("90", full.load(), 90);
        full.plug(3, Buses.HUB, 0, 0);
        full.run(8);
        check.due("TIER before BUDGET", full.view(3), Buses.TIER);
    }

    private static void failsWithAddresses() {
        PluggedBus bus = new PluggedBus();
        bus.plug(0, Buses.HUB, 0, 0);
        bus.plug(1, Buses.HUB, 0, 0);
        for (int port = 2; port <= 5; port++) {
            bus.plug(port, Buses.DISK, 1, 0);
        }
        check.due("four enumerations, polls of two hubs from the third frame on", bus.run(5), 4 * 6 + 1 + 3 * 2);
        int[] views = {3, 3, 3, 3, 6, 6};
        for (int port = 0; port < 6; port++) {
            check.due("port " + port, bus.view(port), views[port]);
        }
        bus.unplug(2);
        bus.run(2);
        check.due("a free address alone helps nobody", bus.view(4), Buses.ADDRESSES);
        bus.unplug(5);
        bus.plug(5, Buses.DISK, 1, 0);
        bus.run(1);
        check.due("a device that comes then", bus.view(5), Buses.READY);
    }

    private static void failsWithBudget() {
        PluggedBus bus = Buses.withHub();
        bus.plug(1, Buses.KEYS, 1, 60);
        bus.run(1);
        bus.plug(2, Buses.KEYS, 1, 27);
        bus.run(3);
        check.due("4 + 60 + 27", bus.view(2), Buses.BUDGET);
        check.due("load()", bus.load(), 64);
        check.due("no address", bus.address(2), 0);
        bus.plug(3, Buses.KEYS, 1, 26);
        bus.run(3);
        check.due("4 + 60 + 26", bus.view(3), Buses.READY);
        check.due("load()", bus.load(), 90);
        bus = Buses.withKeys(1, 60);
        bus.plug(1, Buses.KEYS, 1, 31);
        check.due("a poll, four transactions", bus.run(1), 1 + 4);
        check.due("60 + 31", bus.view(1), Buses.BUDGET);
        bus.unplug(1);
        bus.plug(1, Buses.DISK, 8, 0);
        bus.run(3);
        check.due("a disk costs nothing", bus.view(1), Buses.READY);
        failsWithTheBudgetOfAHub();
    }

    private static void failsWithTheBudgetOfAHub() {
        PluggedBus bus = Buses.withHub();
        bus.plug(2, Buses.KEYS, 1, 60);
        bus.plug(3, Buses.KEYS, 1, 23);
        bus.run(4);
        check.due("4 + 60 + 23", bus.load(), 87);
        bus.plug(1, Buses.HUB, 0, 0);
        bus.run(6);
        check.due("and 4", bus.view(1), Buses.BUDGET);
        bus.unplug(1);
        bus.unplug(3);
        bus.plug(3, Buses.KEYS, 1, 22);
        bus.run(3);
        bus.plug(1, Buses.HUB, 0, 0);
        bus.run(6);
        check.due("4 + 60 + 22 and 4", bus.view(1), Buses.READY);
    }

    private static void staysFailedUntilAChange() {
        PluggedBus bus = Buses.withHubAnd(Buses.HUB, 0, 0);
        check.due("polls of the hub alone", bus.run(5), 5);
        check.due("TIER", bus.view(2), Buses.TIER);
        bus.unplug(2);
        bus.run(1);
        check.due("unplugged", bus.view(2), Buses.NOTHING);
        bus.plug(2, Buses.DISK, 1, 0);
        bus.run(1);
        check.due("plugged", bus.view(2), Buses.READY);
    }

    /** "also one whose hub is not there: mostly NOTHING". */
    private static void followsTheHub() {
        PluggedBus bus = Buses.withHub();
        bus.plug(2, Buses.DISK, 1, 0);
        bus.plug(3, Buses.HUB, 0, 0);
        bus.run(2);
        check.due("port 3 failed", bus.view(3), Buses.TIER);
        bus.unplug(0);
        check.due("a hub that is not there: port 2", bus.view(2), Buses.READY);
        check.due("a hub that is not there: port 3", bus.view(3), Buses.TIER);
        check.due("no poll", bus.run(1), 0);
        for (int port = 0; port < 6; port++) {
            check.due("port " + port, bus.view(port), Buses.NOTHING);
        }
        bus = new PluggedBus();
        bus.plug(1, Buses.HUB, 0, 0);
        bus.plug(4, Buses.DISK, 1, 0);
        bus.plug(5, Buses.DISK, 1, 0);
        bus.run(3);
        check.due("port 5", bus.view(5), Buses.READY);
        bus.unplug(1);
        bus.plug(1, Buses.DISK, 1, 0);
        bus.run(1);
        check.due("a disk in the hub's place", bus.view(1), Buses.READY);
        check.due("port 4", bus.view(4), Buses.NOTHING);
        check.due("port 5", bus.view(5), Buses.NOTHING);
    }
}
