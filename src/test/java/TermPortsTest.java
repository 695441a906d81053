/** The document's Terms on ports, devices and who hears: a test for each edge that they name. */
final class TermPortsTest {
    private static final Check check = new Check();

    public static void main(String[] args) {
        portsOfAHubAreThereOnlyWithIt();
        aHubBehindAHubHasNoPorts();
        aPortHasOneDevice();
        aDiskHasOneToEightBlocks();
        aDiskHasADelayOfZeroToThree();
        keysHaveAnIntervalOfOneToEight();
        keysHaveACostOfOneToSixty();
        atMostFourCodesWait();
        aPortIsClosedWhenADeviceIsPluggedIn();
        keysInAFailedPortDoNotHear();
        aDiskInAFailedPortDoesNotHear();
        aHubThatFailedWithTierDoesNotHear();
        keysThatFailedWithBudgetDoNotHear();
        devicesBehindAFailedHubDoNotHear();
        check.end();
    }

    /** "Ports 2, 3 belong to a hub in port 0, ports 4, 5 to a hub in port 1; they are there only with it." */
    private static void portsOfAHubAreThereOnlyWithIt() {
        for (int hub = 0; hub < 2; hub++) {
            for (int port = 2; port < 6; port++) {
                boolean belongs = hub == 0 ? port <= 3 : port >= 4;
                String where = "a hub in port " + hub + ", port " + port;
                PluggedBus bus = new PluggedBus();
                check.due("before " + where, bus.plug(port, Buses.DISK, 1, 0), false);
                bus.plug(hub, Buses.HUB, 0, 0);
                check.due("with " + where, bus.plug(port, Buses.DISK, 1, 0), belongs);
                bus.unplug(hub);
                check.due("after " + where, bus.plug(port, Buses.DISK, 1, 0), false);
                bus.plug(hub, Buses.DISK, 1, 0);
                check.due("a disk in place of " + where, bus.plug(port, Buses.DISK, 1, 0), false);
                bus.unplug(hub);
                bus.plug(hub, Buses.KEYS, 1, 1);
                check.due("keys in place of " + where, bus.plug(port, Buses.DISK, 1, 0), false);
            }
        }
    }

    private static void aHubBehindAHubHasNoPorts() {
        PluggedBus bus = Buses.withHubAnd(Buses.HUB, 0, 0);
        for (int port = 4; port <= 9; port++) {
            check.due("plug(" + port + ", ..)", bus.plug(port, Buses.DISK, 1, 0), false);
        }
    }

    /** "A port is empty or has a DEVICE". */
    private static void aPortHasOneDevice() {
        PluggedBus bus = Buses.withHub();
        for (int port = 1; port <= 3; port++) {
            check.due("empty: port " + port, bus.plug(port, Buses.DISK, 1, 0), true);
            check.due("full: port " + port, bus.plug(port, Buses.DISK, 1, 0), false);
            check.due("full: a hub into port " + port, bus.plug(port, Buses.HUB, 0, 0), false);
            bus.unplug(port);
            check.due("empty again: port " + port, bus.plug(port, Buses.DISK, 1, 0), true);
        }
    }

    /** "1 DISK of 1 to 8 BLOCKS (numbers, 0 when it is plugged in)". */
    private static void aDiskHasOneToEightBlocks() {
        for (int blocks = -1; blocks <= 10; blocks++) {
            PluggedBus bus = new PluggedBus();
            boolean fine = blocks >= 1 && blocks <= 8;
            check.due("a disk of " + blocks, bus.plug(0, Buses.DISK, blocks, 0), fine);
            bus.run(1);
            for (int k = 0; k < 8; k++) {
                int number = bus.read(0, k, 1);
                check.due("an order of block " + k + " of " + blocks, number, fine ? k : -1);
                check.due("its state", bus.order(number), !fine ? -1 : k < blocks ? 0 : 4);
                check.due("0 at first", bus.image(0, k), 0);
            }
            bus.run(3);
            for (int k = 0; fine && k < blocks; k++) {
                check.due("read block " + k + " of " + blocks, bus.order(k), 1);
                check.due("its number", bus.got(k, 0), 0);
            }
        }
    }

    /** "with a DELAY 0 .. 3". */
    private static void aDiskHasADelayOfZeroToThree() {
        for (int delay = -2; delay <= 5; delay++) {
            PluggedBus bus = new PluggedBus();
            boolean fine = delay >= 0 && delay <= 3;
            check.due("a disk with delay " + delay, bus.plug(0, Buses.DISK, 1, delay), fine);
            check.due("enumeration", bus.run(1), fine ? 6 : 0);
            bus.read(0, 0, 1);
            check.due("an order", bus.run(1), fine ? 3 + delay : 0);
        }
    }

    /** "2 KEYS, with an INTERVAL 1 .. 8". */
    private static void keysHaveAnIntervalOfOneToEight() {
        for (int interval = -1; interval <= 10; interval++) {
            PluggedBus bus = new PluggedBus();
            boolean fine = interval >= 1 && interval <= 8;
            check.due("keys with interval " + interval, bus.plug(0, Buses.KEYS, interval, 1), fine);
            check.due("enumeration", bus.run(1), fine ? 6 : 0);
            check.due("no poll before its frame", interval > 1 && fine ? bus.run(interval - 1) : 0, 0);
            check.due("a poll", bus.run(1), fine ? 1 : 0);
        }
    }

    /** "and a COST 1 .. 60". */
    private static void keysHaveACostOfOneToSixty() {
        int[] costs = {-1, 0, 1, 2, 59, 60, 61, 62, 256};
        for (int cost : costs) {
            PluggedBus bus = new PluggedBus();
            boolean fine = cost >= 1 && cost <= 60;
            check.due("keys with cost " + cost, bus.plug(0, Buses.KEYS, 1, cost), fine);
            bus.run(1);
            check.due("load()", bus.load(), fine ? cost : 0);
        }
    }

    /** "and at most 4 codes that wait". */
    private static void atMostFourCodesWait() {
        PluggedBus bus = new PluggedBus();
        bus.plug(0, Buses.KEYS, 1, 1);
        for (int i = 0; i < 4; i++) {
            check.due("a code with " + i + " before it", bus.press(0, i), true);
        }
        check.due("a fifth", bus.press(0, 4), false);
        bus.run(6);
        check.due("only four come", bus.keys(), 4);
        for (int i = 0; i < 4; i++) {
            check.due("after all were taken, " + i, bus.press(0, i), true);
        }
        check.due("and a fifth again", bus.press(0, 4), false);
    }

    /** "A port is CLOSED or OPEN, closed when a device is plugged in." The hub's packet is lost: the host polls on. */
    private static void aPortIsClosedWhenADeviceIsPluggedIn() {
        PluggedBus bus = Buses.withHubAnd(Buses.KEYS, 1, 1);
        bus.unplug(2);
        bus.plug(2, Buses.KEYS, 1, 1);
        bus.press(2, 5);
        bus.spoil(1, Buses.DATA);
        bus.spoil(3, Buses.DATA);
        check.due("two frames with two polls", bus.run(2), 4);
        check.due("the new keys hear no poll", bus.keys(), 0);
        check.due("the host believes in the old ones", bus.view(2), Buses.READY);
        check.due("the hub tells, enumeration", bus.run(1), 1 + 6);
        bus.run(1);
        check.due("then they do", bus.key(0), 2 * 256 + 5);
    }

    /** "A device hears what the host sends if its port is open": others get the address that it still has. */
    private static void keysInAFailedPortDoNotHear() {
        PluggedBus bus = Buses.withKeys(1, 1);
        bus.press(0, 7);
        Buses.spoilRow(bus, 1, 3, Buses.TOKEN);
        bus.run(3);
        check.due("the keys in port 0 failed", bus.view(0), Buses.FAULTS);
        bus.plug(1, Buses.KEYS, 1, 1);
        bus.press(1, 9);
        bus.run(2);
        check.due("their address is port 1's", bus.address(1), 1);
        check.due("one key", bus.keys(), 1);
        check.due("of port 1", bus.key(0), 256 + 9);
        bus.run(3);
        check.due("and no other", bus.keys(), 1);
    }

    private static void aDiskInAFailedPortDoesNotHear() {
        PluggedBus bus = Buses.withDisk(2, 0);
        bus.read(0, 0, 1);
        Buses.spoilRow(bus, 1, 3, Buses.TOKEN);
        bus.run(1);
        bus.plug(1, Buses.DISK, 4, 0);
        bus.run(1);
        check.due("port 0 failed", bus.view(0), Buses.FAULTS);
        check.due("its address is port 1's", bus.address(1), 1);
        check.due("an order for block 3", bus.write(1, 3, 1, 8), 1);
        bus.write(1, 0, 1, 9);
        bus.run(1);
        check.due("DONE", bus.order(1), 1);
        check.due("port 1's block 0", bus.image(1, 0), 9);
        check.due("port 0's block 0", bus.image(0, 0), 0);
    }

    private static void aHubThatFailedWithTierDoesNotHear() {
        PluggedBus bus = Buses.withHubAnd(Buses.HUB, 0, 0);
        check.due("TIER", bus.view(2), Buses.TIER);
        bus.plug(3, Buses.DISK, 1, 0);
        check.due("a poll, enumeration", bus.run(1), 1 + 6);
        check.due("the same address", bus.address(3), 2);
        check.due("but another device", bus.view(3), Buses.READY);
    }

    private static void keysThatFailedWithBudgetDoNotHear() {
        PluggedBus bus = Buses.withHub();
        bus.plug(1, Buses.KEYS, 8, 60);
        bus.run(1);
        bus.plug(2, Buses.KEYS, 1, 27);
        bus.run(1);
        check.due("BUDGET", bus.view(2), Buses.BUDGET);
        bus.plug(3, Buses.KEYS, 1, 26);
        check.due("a poll, enumeration", bus.run(1), 1 + 6);
        check.due("the same address", bus.address(3), 3);
        check.due("but other keys", bus.load(), 4 + 60 + 26);
        bus.press(2, 1);
        bus.press(3, 2);
        bus.run(1);
        check.due("which alone are polled", bus.key(0), 3 * 256 + 2);
    }

    /** "and, behind a hub, the hub's port too." */
    private static void devicesBehindAFailedHubDoNotHear() {
        PluggedBus bus = Buses.withHubAnd(Buses.DISK, 4, 0);
        Buses.spoilRow(bus, 1, 3, Buses.TOKEN);
        bus.run(3);
        check.due("the hub failed", bus.view(0), Buses.FAULTS);
        bus.plug(1, Buses.HUB, 0, 0);
        bus.plug(4, Buses.DISK, 4, 0);
        check.due("the other hub, a poll, its disk", bus.run(2), 6 + 1 + 6);
        check.due("an address again", bus.address(1), 1);
        check.due("and another one", bus.address(4), 2);
        bus.write(4, 0, 4, 5);
        bus.run(1);
        check.due("DONE", bus.order(0), 1);
        check.due("in port 4", bus.image(4, 3), 8);
        check.due("not in port 2", bus.image(2, 3), 0);
    }
}
