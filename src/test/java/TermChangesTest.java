/** The document's Terms on changes, on what the host hears, on DETACHED and on a hub's packet: a test for each edge. */
final class TermChangesTest {
    private static final Check check = new Check();

    public static void main(String[] args) {
        aPlugAndAnUnplugLeaveNothing();
        anUnplugAndAPlugAreOneChange();
        aRefusedCallMarksNothing();
        aPortOfAHubThatIsNotConfiguredIsNotMarked();
        aFailedHubStillMarksItsPorts();
        aChangeOfAPortThatIsNothing();
        aChangeOfAPortThatWaits();
        aChangeOfAPortThatIsGoing();
        aChangeOfAPortThatIsReady();
        aChangeOfAPortThatFailed();
        aDetachedPortsAddressIsFree();
        aDetachedPortsOrdersAreGone();
        aDetachedHubsPortsAreDetached();
        aDetachedHubsPortsAreDetachedWhateverTheirView();
        aDetachedDiskDetachesNoOther();
        aHubMarksItsFullPortsWhenConfigured();
        aHubMarksNoEmptyPortsWhenConfigured();
        aHubTellsOnlyOfThePortThatChanged();
        aHubTellsOfBothPortsAtOnce();
        aHubTellsWhetherAPortIsFullThen();
        aHubTellsOfAChangeOnce();
        aHubKeepsAChangeWhileItHoldsAPacket();
        check.end();
    }

    /** "a plug or unplug marks its port as changed": here the port is empty again when the host hears. */
    private static void aPlugAndAnUnplugLeaveNothing() {
        PluggedBus bus = new PluggedBus();
        bus.plug(0, Buses.DISK, 1, 0);
        bus.unplug(0);
        check.due("no transaction", bus.run(2), 0);
        check.due("the port", bus.view(0), Buses.NOTHING);
        bus = Buses.withHub();
        bus.plug(3, Buses.DISK, 1, 0);
        bus.unplug(3);
        check.due("polls alone", bus.run(2), 2);
        check.due("the hub's port", bus.view(3), Buses.NOTHING);
    }

    private static void anUnplugAndAPlugAreOneChange() {
        PluggedBus bus = Buses.withDisk(1, 0);
        for (int i = 0; i < 3; i++) {
            bus.unplug(0);
            bus.plug(0, Buses.DISK, 2, 0);
        }
        check.due("one enumeration", bus.run(3), 6);
        check.due("the port", bus.view(0), Buses.READY);
    }

    private static void aRefusedCallMarksNothing() {
        PluggedBus bus = Buses.withHubAnd(Buses.DISK, 1, 0);
        check.due("a full port", bus.plug(0, Buses.HUB, 0, 0), false);
        check.due("a full port behind the hub", bus.plug(2, Buses.DISK, 1, 0), false);
        check.due("no such disk", bus.plug(1, Buses.DISK, 9, 0), false);
        check.due("no such keys", bus.plug(3, Buses.KEYS, 1, 61), false);
        check.due("an empty port", bus.unplug(1), false);
        check.due("an empty port behind the hub", bus.unplug(3), false);
        check.due("polls alone", bus.run(3), 3);
        check.due("the hub's address", bus.address(0), 1);
        check.due("the disk's address", bus.address(2), 2);
    }

    /** "(for ports of a hub: only if that hub is CONFIGURED)": so an empty one is not told of. */
    private static void aPortOfAHubThatIsNotConfiguredIsNotMarked() {
        PluggedBus bus = new PluggedBus();
        bus.plug(0, Buses.HUB, 0, 0);
        bus.plug(2, Buses.DISK, 1, 0);
        bus.unplug(2);
        bus.plug(3, Buses.DISK, 1, 0);
        bus.unplug(3);
        check.due("enumeration of the hub", bus.run(1), 6);
        bus.spoil(1, Buses.HANDSHAKE);
        check.due("it has no packet", bus.run(1), 1);
        bus.plug(2, Buses.DISK, 1, 0);
        check.due("so that the next one is new", bus.run(1), 1 + 6);
    }

    /** The hub in port 0 stays configured, but nobody hears it; a new enumeration begins with what is full then. */
    private static void aFailedHubStillMarksItsPorts() {
        PluggedBus bus = Buses.withHubAnd(Buses.DISK, 1, 0);
        Buses.spoilRow(bus, 1, 3, Buses.TOKEN);
        bus.run(3);
        check.due("the hub", bus.view(0), Buses.FAULTS);
        bus.unplug(2);
        bus.plug(3, Buses.DISK, 1, 0);
        check.due("no poll any more", bus.run(2), 0);
        check.due("port 3", bus.view(3), Buses.NOTHING);
    }

    /** "The host HEARS of a change: unless NOTHING, the port is DETACHED; then, if it is said to be full, it WAITS." */
    private static void aChangeOfAPortThatIsNothing() {
        PluggedBus bus = new PluggedBus();
        bus.plug(1, Buses.DISK, 1, 0);
        check.due("enumeration in the same frame", bus.run(1), 6);
        check.due("the port", bus.view(1), Buses.READY);
    }

    private static void aChangeOfAPortThatWaits() {
        PluggedBus bus = withPort1Waiting();
        bus.unplug(1);
        bus.run(1);
        check.due("unplugged", bus.view(1), Buses.NOTHING);
        bus = withPort1Waiting();
        bus.unplug(1);
        bus.plug(1, Buses.KEYS, 1, 5);
        check.due("exchanged: enumeration", bus.run(1), 6);
        check.due("of the new one", bus.load(), 5);
    }

    /** Four faults make the enumeration of port 0 as long as the frame. */
    private static PluggedBus withPort1Waiting() {
        PluggedBus bus = new PluggedBus();
        bus.plug(0, Buses.DISK, 1, 0);
        bus.plug(1, Buses.DISK, 1, 0);
        Buses.spoilRow(bus, 1, 2, Buses.TOKEN);
        Buses.spoilRow(bus, 4, 2, Buses.TOKEN);
        check.due("a frame for port 0", bus.run(1), 10);
        check.due("port 0", bus.view(0), Buses.READY);
        check.due("port 1", bus.view(1), Buses.WAITS);
        return bus;
    }

    private static void aChangeOfAPortThatIsGoing() {
        PluggedBus bus = withPort1Going();
        bus.unplug(1);
        check.due("unplugged", bus.run(1), 0);
        check.due("the port", bus.view(1), Buses.NOTHING);
        check.due("no address", bus.address(1), 0);
        bus = withPort1Going();
        bus.unplug(1);
        bus.plug(1, Buses.DISK, 1, 0);
        check.due("exchanged: all of an enumeration", bus.run(1), 6);
        check.due("the port", bus.view(1), Buses.READY);
        check.due("its address", bus.address(1), 2);
    }

    private static PluggedBus withPort1Going() {
        PluggedBus bus = new PluggedBus();
        bus.plug(0, Buses.DISK, 1, 0);
        bus.plug(1, Buses.DISK, 1, 0);
        bus.run(1);
        check.due("port 1", bus.view(1), Buses.GOING);
        return bus;
    }

    private static void aChangeOfAPortThatIsReady() {
        PluggedBus bus = Buses.withKeys(1, 1);
        bus.unplug(0);
        check.due("unplugged: no poll", bus.run(1), 0);
        check.due("the port", bus.view(0), Buses.NOTHING);
        bus = Buses.withKeys(1, 1);
        bus.unplug(0);
        bus.plug(0, Buses.KEYS, 1, 2);
        check.due("exchanged: enumeration, no poll", bus.run(1), 6);
        check.due("load()", bus.load(), 2);
    }

    private static void aChangeOfAPortThatFailed() {
        PluggedBus bus = Buses.withKeys(1, 1);
        Buses.spoilRow(bus, 1, 3, Buses.TOKEN);
        bus.run(3);
        check.due("FAULTS", bus.view(0), Buses.FAULTS);
        bus.unplug(0);
        check.due("until the host hears", bus.view(0), Buses.FAULTS);
        bus.run(1);
        check.due("unplugged", bus.view(0), Buses.NOTHING);
        bus = Buses.withHubAnd(Buses.HUB, 0, 0);
        bus.unplug(2);
        bus.plug(2, Buses.DISK, 1, 0);
        check.due("TIER", bus.view(2), Buses.TIER);
        check.due("exchanged: a poll, enumeration", bus.run(1), 1 + 6);
        check.due("READY", bus.view(2), Buses.READY);
    }

    /** "DETACHED: its view is NOTHING, it is closed, its address is free". */
    private static void aDetachedPortsAddressIsFree() {
        PluggedBus bus = Buses.withTwoDisks();
        check.due("port 1's address", bus.address(1), 2);
        bus.unplug(0);
        bus.run(1);
        check.due("port 0's", bus.address(0), 0);
        check.due("port 1's is the same", bus.address(1), 2);
        bus.plug(0, Buses.DISK, 1, 0);
        bus.run(1);
        check.due("1 is given again", bus.address(0), 1);
    }

    /** "its orders that are not over end with GONE". */
    private static void aDetachedPortsOrdersAreGone() {
        PluggedBus bus = Buses.withTwoDisks();
        bus.read(0, 0, 1);
        bus.run(1);
        bus.read(0, 7, 2);
        bus.write(0, 0, 4, 1);
        bus.read(0, 0, 1);
        bus.read(1, 0, 1);
        bus.unplug(0);
        check.due("before the host hears", bus.order(2), 0);
        check.due("three for port 1", bus.run(1), 3);
        int[] due = {1, 4, 3, 3, 1};
        for (int k = 0; k < 5; k++) {
            check.due("order(" + k + ")", bus.order(k), due[k]);
        }
        bus.plug(0, Buses.DISK, 8, 0);
        check.due("enumeration, and no order of before", bus.run(2), 6);
    }

    /** "and, if it was READY as a HUB, the two ports of it are detached (the smaller first)." */
    private static void aDetachedHubsPortsAreDetached() {
        PluggedBus bus = new PluggedBus();
        bus.plug(1, Buses.HUB, 0, 0);
        bus.plug(4, Buses.DISK, 8, 0);
        bus.plug(5, Buses.DISK, 8, 0);
        bus.plug(0, Buses.DISK, 8, 0);
        bus.run(4);
        bus.read(4, 0, 1);
        bus.read(5, 0, 1);
        bus.read(0, 0, 1);
        bus.unplug(1);
        check.due("port 0's alone", bus.run(1), 3);
        int[] views = {3, 0, 0, 0, 0, 0};
        int[] addresses = {1, 0, 0, 0, 0, 0};
        for (int port = 0; port < 6; port++) {
            check.due("view(" + port + ")", bus.view(port), views[port]);
            check.due("address(" + port + ")", bus.address(port), addresses[port]);
        }
        check.due("port 4's order", bus.order(0), 3);
        check.due("port 5's order", bus.order(1), 3);
        check.due("port 0's order", bus.order(2), 1);
    }

    /** Port 2 is GOING, port 3 WAITS, or one of them failed. */
    private static void aDetachedHubsPortsAreDetachedWhateverTheirView() {
        PluggedBus bus = Buses.withHub();
        bus.plug(2, Buses.DISK, 1, 0);
        bus.plug(3, Buses.DISK, 1, 0);
        Buses.spoilRow(bus, 2, 2, Buses.TOKEN);
        Buses.spoilRow(bus, 5, 2, Buses.TOKEN);
        bus.run(1);
        check.due("port 2", bus.view(2), Buses.GOING);
        check.due("port 3", bus.view(3), Buses.WAITS);
        bus.unplug(0);
        check.due("nothing goes on", bus.run(2), 0);
        check.due("port 2", bus.view(2), Buses.NOTHING);
        check.due("port 3", bus.view(3), Buses.NOTHING);
        bus = Buses.withHubAnd(Buses.HUB, 0, 0);
        check.due("port 2", bus.view(2), Buses.TIER);
        Buses.spoilRow(bus, 1, 3, Buses.TOKEN);
        bus.run(3);
        check.due("the hub", bus.view(0), Buses.FAULTS);
        check.due("port 2", bus.view(2), Buses.NOTHING);
    }

    private static void aDetachedDiskDetachesNoOther() {
        PluggedBus bus = Buses.withHub();
        bus.plug(1, Buses.DISK, 1, 0);
        bus.plug(2, Buses.DISK, 1, 0);
        bus.plug(3, Buses.KEYS, 1, 1);
        bus.run(3);
        bus.unplug(1);
        bus.unplug(2);
        check.due("two polls", bus.run(1), 2);
        int[] views = {3, 0, 0, 3, 0, 0};
        for (int port = 0; port < 6; port++) {
            check.due("view(" + port + ")", bus.view(port), views[port]);
        }
    }

    /** "A HUB, when it becomes configured, marks those of its ports that are full as changed, others not." */
    private static void aHubMarksItsFullPortsWhenConfigured() {
        for (int mask = 0; mask < 4; mask++) {
            PluggedBus bus = new PluggedBus();
            bus.plug(1, Buses.HUB, 0, 0);
            int full = 0;
            for (int i = 0; i < 2; i++) {
                if ((mask >> i & 1) == 1) {
                    bus.plug(4 + i, Buses.DISK, 1, 0);
                    full++;
                }
            }
            check.due("the hub, then polls and its devices, mask " + mask, bus.run(4), 6 + 3 + 6 * full);
            for (int i = 0; i < 2; i++) {
                check.due("port " + (4 + i), bus.view(4 + i), (mask >> i & 1) == 1 ? Buses.READY : Buses.NOTHING);
            }
        }
    }

    private static void aHubMarksNoEmptyPortsWhenConfigured() {
        PluggedBus bus = Buses.withHub();
        bus.spoil(1, Buses.HANDSHAKE);
        check.due("no packet, so none is sent again", bus.run(1), 1);
        bus.plug(2, Buses.DISK, 1, 0);
        check.due("the first packet is told at once", bus.run(1), 1 + 6);
    }

    /** "tells for each of the two whether it is changed": the other port is left alone. */
    private static void aHubTellsOnlyOfThePortThatChanged() {
        for (int port = 2; port <= 3; port++) {
            PluggedBus bus = Buses.withHub();
            bus.plug(2, Buses.DISK, 1, 0);
            bus.plug(3, Buses.DISK, 1, 0);
            bus.run(2);
            bus.unplug(port);
            check.due("a poll", bus.run(1), 1);
            check.due("port " + port, bus.view(port), Buses.NOTHING);
            check.due("the other", bus.view(5 - port), Buses.READY);
            bus.plug(port, Buses.DISK, 1, 0);
            check.due("a poll, one enumeration", bus.run(1), 1 + 6);
            check.due("port " + port, bus.view(port), Buses.READY);
        }
    }

    private static void aHubTellsOfBothPortsAtOnce() {
        PluggedBus bus = Buses.withHubAnd(Buses.DISK, 1, 0);
        bus.unplug(2);
        bus.plug(3, Buses.DISK, 1, 0);
        check.due("a poll, port 3's enumeration", bus.run(1), 1 + 6);
        check.due("port 2", bus.view(2), Buses.NOTHING);
        check.due("port 3", bus.view(3), Buses.READY);
        check.due("port 2's address", bus.address(3), 2);
    }

    /** "and, if so, whether it is full then": when the packet is made, not when it comes. */
    private static void aHubTellsWhetherAPortIsFullThen() {
        PluggedBus bus = Buses.withHub();
        bus.plug(2, Buses.DISK, 1, 0);
        bus.spoil(1, Buses.DATA);
        bus.run(1);
        bus.unplug(2);
        check.due("said to be full, but nothing answers", bus.run(1), 1 + 3);
        check.due("so it fails", bus.view(2), Buses.FAULTS);
        check.due("then it is said to be empty", bus.run(1), 1);
        check.due("port 2", bus.view(2), Buses.NOTHING);
        bus.plug(2, Buses.DISK, 1, 0);
        bus.run(1);
        bus.unplug(2);
        bus.spoil(1, Buses.DATA);
        bus.run(1);
        bus.plug(2, Buses.DISK, 1, 0);
        check.due("said to be empty, though it is full", bus.run(1), 1);
        check.due("port 2", bus.view(2), Buses.NOTHING);
        check.due("said to be full", bus.run(1), 1 + 6);
        check.due("port 2", bus.view(2), Buses.READY);
    }

    /** "both are changed no more." */
    private static void aHubTellsOfAChangeOnce() {
        PluggedBus bus = Buses.withHub();
        bus.plug(2, Buses.DISK, 1, 0);
        bus.plug(3, Buses.DISK, 1, 0);
        bus.run(2);
        check.due("port 2", bus.address(2), 2);
        check.due("port 3", bus.address(3), 3);
        check.due("polls alone", bus.run(5), 5);
        bus.unplug(3);
        bus.run(1);
        check.due("port 2 stays", bus.view(2), Buses.READY);
    }

    private static void aHubKeepsAChangeWhileItHoldsAPacket() {
        PluggedBus bus = Buses.withHub();
        bus.plug(2, Buses.DISK, 1, 0);
        bus.spoil(1, Buses.DATA);
        bus.run(1);
        bus.plug(3, Buses.DISK, 1, 0);
        check.due("the packet of port 2", bus.run(1), 1 + 6);
        check.due("port 3 was not told of", bus.view(3), Buses.NOTHING);
        check.due("the packet of port 3", bus.run(1), 1 + 6);
        check.due("port 3", bus.view(3), Buses.READY);
    }
}
