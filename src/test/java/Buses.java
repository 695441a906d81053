/** Buses as tests like to begin with: every device named has been enumerated without a loss. */
final class Buses {
    static final int DISK = 1;
    static final int KEYS = 2;
    static final int HUB = 3;

    static final int NOTHING = 0;
    static final int WAITS = 1;
    static final int GOING = 2;
    static final int READY = 3;
    static final int FAULTS = 4;
    static final int TIER = 5;
    static final int ADDRESSES = 6;
    static final int BUDGET = 7;

    static final int TOKEN = 0;
    static final int DATA = 1;
    static final int HANDSHAKE = 2;
    static final int NO_PART = 3;

    private Buses() {
    }

    /** A device in port 0, address 1; the next frame's number is 1. */
    private static PluggedBus with(int kind, int a, int b) {
        PluggedBus bus = new PluggedBus();
        bus.plug(0, kind, a, b);
        bus.run(1);
        return bus;
    }

    static PluggedBus withDisk(int blocks, int delay) {
        return with(DISK, blocks, delay);
    }

    static PluggedBus withKeys(int interval, int cost) {
        return with(KEYS, interval, cost);
    }

    static PluggedBus withHub() {
        return with(HUB, 0, 0);
    }

    /** A HUB in port 0, address 1, and a device in port 2, address 2; the next frame's number is 2. */
    static PluggedBus withHubAnd(int kind, int a, int b) {
        PluggedBus bus = withHub();
        bus.plug(2, kind, a, b);
        bus.run(1);
        return bus;
    }

    /**
     * As withHubAnd, but a frame later, and the hub has still to tell of the device that the host has enumerated: its
     * packet of an earlier one came late.
     */
    static PluggedBus withHubThatWillTellAgainOf(int kind, int a, int b) {
        PluggedBus bus = withHub();
        bus.plug(2, kind, a, b);
        bus.spoil(1, DATA);
        bus.run(1);
        bus.unplug(2);
        bus.plug(2, kind, a, b);
        bus.run(1);
        return bus;
    }

    /** DISKs of 8 blocks without delay in ports 0 and 1, addresses 1 and 2. */
    static PluggedBus withTwoDisks() {
        PluggedBus bus = new PluggedBus();
        bus.plug(0, DISK, 8, 0);
        bus.plug(1, DISK, 8, 0);
        bus.run(2);
        return bus;
    }

    /** The same part of several transactions one after the other, from the first-th on. */
    static void spoilRow(PluggedBus bus, int first, int many, int part) {
        for (int k = first; k < first + many; k++) {
            bus.spoil(k, part);
        }
    }
}
