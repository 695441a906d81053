/** Promise 2: plug. */
final class PlugTest {
    private static final Check check = new Check();

    public static void main(String[] args) {
        takesWhatIsAsSaid();
        refusesWhatIsNot();
        knowsWhichPortsAreThere();
        refusesAFullPort();
        changesNothingWhenItRefuses();
        bringsBlocksOfZero();
        marksOwnPort();
        bringsACodelessKeyboard();
        closesThePort();
        closesAPortThatIsOpenAndEmpty();
        isSeenOnceTheHubIsConfigured();
        leavesTheDeviceOfAFullPortAsItIs();
        leavesAPortThatIsNotThereAsItIs();
        check.end();
    }

    private static void device(int kind, int a, int b, boolean want) {
        check.due("plug(0, " + kind + ", " + a + ", " + b + ")", new PluggedBus().plug(0, kind, a, b), want);
    }

    /** "a DISK with a blocks and delay b, KEYS with interval a and cost b, a HUB (a and b 0)." */
    private static void takesWhatIsAsSaid() {
        device(1, 1, 0, true);
        device(1, 8, 3, true);
        device(2, 1, 1, true);
        device(2, 8, 60, true);
        device(3, 0, 0, true);
    }

    /** "False .. when .. kind, a or b is not as said." */
    private static void refusesWhatIsNot() {
        device(1, 0, 0, false);
        device(1, 9, 0, false);
        device(1, 1, -1, false);
        device(1, 1, 4, false);
        device(2, 0, 1, false);
        device(2, 9, 1, false);
        device(2, 1, 0, false);
        device(2, 1, 61, false);
        device(3, 1, 0, false);
        device(3, 0, 1, false);
        device(0, 1, 1, false);
        device(4, 1, 1, false);
        device(Integer.MIN_VALUE, 1, 1, false);
        device(1, Integer.MAX_VALUE, 1, false);
        device(2, 1, Integer.MIN_VALUE, false);
    }

    /** "False .. when there is no such port". */
    private static void knowsWhichPortsAreThere() {
        int[] never = {-1, 6, Integer.MIN_VALUE, Integer.MAX_VALUE};
        for (int port : never) {
            check.due("plug into port " + port, new PluggedBus().plug(port, 1, 1, 0), false);
        }
        PluggedBus bus = new PluggedBus();
        for (int port = 2; port < 6; port++) {
            check.due("no hub: port " + port, bus.plug(port, 1, 1, 0), false);
        }
        bus.plug(0, Buses.DISK, 1, 0);
        check.due("a disk is no hub", bus.plug(2, 1, 1, 0), false);
        bus.plug(1, Buses.HUB, 0, 0);
        check.due("the other hub's port 2", bus.plug(2, 1, 1, 0), false);
        check.due("the other hub's port 3", bus.plug(3, 1, 1, 0), false);
        check.due("this hub's port 4", bus.plug(4, 3, 0, 0), true);
        check.due("this hub's port 5", bus.plug(5, 1, 1, 0), true);
        bus.unplug(0);
        bus.plug(0, Buses.HUB, 0, 0);
        check.due("a hub in port 0: port 2", bus.plug(2, 1, 1, 0), true);
        check.due("a hub in port 0: port 3", bus.plug(3, 2, 1, 1), true);
    }

    /** "False .. when .. it is not empty". */
    private static void refusesAFullPort() {
        PluggedBus bus = new PluggedBus();
        bus.plug(0, Buses.DISK, 2, 0);
        check.due("a full port", bus.plug(0, Buses.KEYS, 1, 1), false);
        bus.run(1);
        check.due("still the disk: load", bus.load(), 0);
        check.due("still the disk: write", bus.write(0, 0, 3, 1), 0);
        check.due("still of 2 blocks", bus.order(0), 4);
    }

    /** "False, changing nothing". */
    private static void changesNothingWhenItRefuses() {
        PluggedBus bus = new PluggedBus();
        bus.plug(0, 1, 9, 0);
        check.due("after a refused plug: run", bus.run(1), 0);
        check.due("after a refused plug: view", bus.view(0), Buses.NOTHING);
        bus = Buses.withDisk(4, 0);
        bus.plug(0, Buses.DISK, 4, 0);
        check.due("a refused plug is no change", bus.run(1), 0);
    }

    /** A new DISK's blocks are 0, whatever the one before it had. */
    private static void bringsBlocksOfZero() {
        PluggedBus bus = Buses.withDisk(8, 0);
        bus.write(0, 0, 4, 70);
        bus.write(0, 4, 4, 80);
        bus.run(1);
        check.due("written", bus.image(0, 7), 83);
        bus.unplug(0);
        bus.plug(0, Buses.DISK, 8, 0);
        for (int k = 0; k < 8; k++) {
            check.due("a new disk's block " + k, bus.image(0, k), 0);
        }
    }

    /** No code waits at KEYS that are new, whatever waited at those before them. */
    private static void bringsACodelessKeyboard() {
        PluggedBus bus = Buses.withKeys(1, 1);
        bus.press(0, 9);
        bus.unplug(0);
        bus.plug(0, Buses.KEYS, 1, 1);
        check.due("new keys are enumerated and polled", bus.run(2), 7);
        check.due("the old code is gone", bus.keys(), 0);
    }

    /** "Plugs a device of a kind into a port": the host hears of it in the next frame. */
    private static void marksOwnPort() {
        PluggedBus bus = new PluggedBus();
        bus.plug(1, Buses.DISK, 1, 0);
        check.due("the host's view before a frame", bus.view(1), Buses.NOTHING);
        check.due("enumerated in a frame", bus.run(1), 6);
        check.due("then ready", bus.view(1), Buses.READY);
        check.due("heard of once", bus.run(3), 0);
    }

    /** The host still sees port 2 READY, but the new device there hears nothing. */
    private static void closesThePort() {
        PluggedBus bus = Buses.withHubAnd(Buses.DISK, 4, 0);
        bus.unplug(2);
        bus.plug(2, Buses.DISK, 4, 0);
        check.due("write to the exchanged disk", bus.write(2, 0, 1, 5), 0);
        bus.spoil(1, Buses.TOKEN);
        check.due("a lost poll and three faults", bus.run(1), 4);
        check.due("the order", bus.order(0), 2);
        check.due("the port", bus.view(2), Buses.FAULTS);
        check.due("then the hub tells, and it is enumerated", bus.run(1), 7);
        check.due("the new disk", bus.view(2), Buses.READY);
        check.due("nothing was written", bus.image(2, 0), 0);
    }

    /** The hub's packet is made before port 3 is emptied; a loss at port 2 leaves two transactions for port 3. */
    private static void closesAPortThatIsOpenAndEmpty() {
        PluggedBus bus = Buses.withHub();
        bus.plug(2, Buses.DISK, 1, 0);
        bus.plug(3, Buses.DISK, 1, 0);
        bus.spoil(1, Buses.DATA);
        bus.run(1);
        bus.unplug(3);
        bus.spoil(2, Buses.TOKEN);
        check.due("a poll, 7 for port 2, 2 for port 3", bus.run(1), 1 + 7 + 2);
        check.due("port 3 is empty, but GOING", bus.view(3), Buses.GOING);
        bus.plug(3, Buses.DISK, 1, 0);
        bus.spoil(1, Buses.TOKEN);
        check.due("a lost poll, the third fault", bus.run(1), 1 + 1);
        check.due("the new device did not hear", bus.view(3), Buses.FAULTS);
        check.due("a poll tells, enumeration", bus.run(1), 1 + 6);
        check.due("then it does", bus.view(3), Buses.READY);
    }

    /** "False, changing nothing, when .. it is not empty": its port stays open, its blocks and its work stay. */
    private static void leavesTheDeviceOfAFullPortAsItIs() {
        PluggedBus bus = Buses.withHubAnd(Buses.DISK, 8, 3);
        bus.write(2, 0, 4, 70);
        bus.write(2, 4, 4, 74);
        check.due("a poll, a full frame", bus.run(1), 1 + 12);
        int[][] devices = {{1, 8, 3}, {1, 1, 0}, {2, 1, 1}, {3, 0, 0}};
        for (int[] device : devices) {
            check.due("a full port", bus.plug(2, device[0], device[1], device[2]), false);
            check.due("the hub's port", bus.plug(0, device[0], device[1], device[2]), false);
        }
        check.due("a poll, the rest of the order", bus.run(1), 1 + 18 - 12);
        check.due("DONE", bus.order(1), 1);
        for (int k = 0; k < 8; k++) {
            check.due("image(2, " + k + ")", bus.image(2, k), 70 + k);
        }
        bus = Buses.withKeys(1, 1);
        bus.press(0, 3);
        check.due("a full port", bus.plug(0, Buses.KEYS, 8, 60), false);
        check.due("a poll", bus.run(1), 1);
        check.due("the code is there still", bus.key(0), 3);
        check.due("the cost, too", bus.load(), 1);
    }

    /** "False, changing nothing, when there is no such port": a hub that comes later finds its ports empty. */
    private static void leavesAPortThatIsNotThereAsItIs() {
        PluggedBus bus = new PluggedBus();
        for (int port = 2; port < 6; port++) {
            bus.plug(port, Buses.DISK, 1, 0);
        }
        bus.plug(0, Buses.HUB, 0, 0);
        bus.plug(1, Buses.HUB, 0, 0);
        check.due("two hubs, then polls", bus.run(4), 12 + 1 + 2 + 2);
        for (int port = 2; port < 6; port++) {
            check.due("unplug(" + port + ")", bus.unplug(port), false);
        }
    }

    /** "Plugs a device of a kind into a port": of a HUB, before that is configured. */
    private static void isSeenOnceTheHubIsConfigured() {
        for (int port = 2; port <= 5; port++) {
            PluggedBus bus = new PluggedBus();
            bus.plug(port / 2 - 1, Buses.HUB, 0, 0);
            bus.plug(port, Buses.DISK, 1, 0);
            check.due("the hub, a poll, port " + port, bus.run(2), 6 + 1 + 6);
            check.due("view(" + port + ")", bus.view(port), Buses.READY);
            check.due("the port beside it", bus.view(port ^ 1), Buses.NOTHING);
        }
    }
}
