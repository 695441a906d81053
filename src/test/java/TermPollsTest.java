/** The document's Terms on polls: a test for each edge that they name. */
final class TermPollsTest {
    private static final Check check = new Check();

    public static void main(String[] args) {
        onlyReadyOnesArePolled();
        disksAreNotPolled();
        theCodeThatWaitsLongestComesFirst();
        aCodeComesOnce();
        aKeyboardFailsAtTheThirdFault();
        aKeyboardFailsAtTheThirdPollThoughFramesLieBetween();
        aHubFailsAtTheThirdFault();
        aHubThatFailsTakesItsPortsWithIt();
        aHubThatFailsEndsOrdersWithGone();
        aHubThatFailsStopsAnEnumeration();
        aHubsChangesAreHeardBeforeItsPortsArePolled();
        aPortThatFailedInAPollIsNotPolled();
        check.end();
    }

    /** "POLLS: IN transactions to READY KEYS and HUBs." */
    private static void onlyReadyOnesArePolled() {
        PluggedBus bus = new PluggedBus();
        bus.plug(0, Buses.HUB, 0, 0);
        bus.plug(1, Buses.KEYS, 1, 1);
        check.due("the hub's 6, 4 of the keys", bus.run(1), 10);
        check.due("GOING", bus.view(1), Buses.GOING);
        check.due("the hub's poll, 2 of the keys", bus.run(1), 1 + 2);
        check.due("both polled", bus.run(1), 2);
        bus = Buses.withHubAnd(Buses.HUB, 0, 0);
        check.due("a hub that failed is not polled", bus.run(3), 3);
        bus = Buses.withKeys(1, 60);
        bus.plug(1, Buses.KEYS, 1, 31);
        bus.run(1);
        check.due("nor keys that failed", bus.run(3), 3);
    }

    private static void disksAreNotPolled() {
        PluggedBus bus = Buses.withTwoDisks();
        check.due("two disks", bus.run(40), 0);
    }

    /** "KEYS make a packet of the code that waits longest, which waits no more." */
    private static void theCodeThatWaitsLongestComesFirst() {
        PluggedBus bus = Buses.withKeys(1, 1);
        int[] codes = {200, 0, 255, 1};
        for (int code : codes) {
            bus.press(0, code);
        }
        for (int i = 0; i < 4; i++) {
            bus.run(1);
            check.due("key " + i, bus.key(0), codes[i]);
            check.due("a place is free", bus.press(0, 100 + i), true);
            check.due("only one", bus.press(0, 100), false);
        }
        for (int i = 0; i < 4; i++) {
            bus.run(1);
            check.due("key " + (4 + i), bus.key(0), 100 + i);
        }
    }

    private static void aCodeComesOnce() {
        PluggedBus bus = Buses.withKeys(1, 1);
        bus.press(0, 7);
        bus.press(0, 7);
        bus.run(40);
        check.due("two equal codes are two keys", bus.keys(), 2);
        check.due("key(0)", bus.key(0), 7);
        check.due("key(1)", bus.key(1), 7);
    }

    /** "At the third fault one after the other the port is DETACHED and then fails with FAULTS." */
    private static void aKeyboardFailsAtTheThirdFault() {
        for (int many = 1; many <= 3; many++) {
            PluggedBus bus = Buses.withKeys(1, 9);
            Buses.spoilRow(bus, 1, many, Buses.TOKEN);
            check.due(many + " faults in 8 frames", bus.run(8), many < 3 ? 8 : 3);
            check.due("the port", bus.view(0), many < 3 ? Buses.READY : Buses.FAULTS);
            check.due("its address", bus.address(0), many < 3 ? 1 : 0);
            check.due("load()", bus.load(), many < 3 ? 9 : 0);
        }
    }

    private static void aKeyboardFailsAtTheThirdPollThoughFramesLieBetween() {
        PluggedBus bus = Buses.withKeys(8, 1);
        Buses.spoilRow(bus, 1, 3, Buses.TOKEN);
        check.due("frames 1 .. 16", bus.run(16), 2);
        check.due("two faults", bus.view(0), Buses.READY);
        check.due("frames 17 .. 24", bus.run(8), 1);
        check.due("three faults", bus.view(0), Buses.FAULTS);
    }

    private static void aHubFailsAtTheThirdFault() {
        for (int many = 1; many <= 3; many++) {
            PluggedBus bus = Buses.withHub();
            Buses.spoilRow(bus, 1, many, Buses.DATA);
            check.due(many + " faults in 8 frames", bus.run(8), many < 3 ? 8 : 3);
            check.due("the port", bus.view(0), many < 3 ? Buses.READY : Buses.FAULTS);
            check.due("load()", bus.load(), many < 3 ? 4 : 0);
        }
    }

    private static void aHubThatFailsTakesItsPortsWithIt() {
        PluggedBus bus = Buses.withHub();
        bus.plug(1, Buses.KEYS, 1, 1);
        bus.plug(2, Buses.KEYS, 1, 1);
        bus.plug(3, Buses.KEYS, 1, 1);
        bus.run(3);
        check.due("load()", bus.load(), 4 + 3);
        bus.spoil(1, Buses.TOKEN);
        bus.spoil(5, Buses.TOKEN);
        bus.spoil(9, Buses.TOKEN);
        check.due("4 polls, 4, then the hub's and port 1's", bus.run(3), 4 + 4 + 2);
        int[] views = {4, 3, 0, 0, 0, 0};
        for (int port = 0; port < 6; port++) {
            check.due("view(" + port + ")", bus.view(port), views[port]);
        }
        check.due("load()", bus.load(), 1);
    }

    private static void aHubThatFailsEndsOrdersWithGone() {
        PluggedBus bus = Buses.withHubAnd(Buses.DISK, 1, 0);
        Buses.spoilRow(bus, 1, 3, Buses.TOKEN);
        bus.run(2);
        bus.read(2, 0, 1);
        check.due("the third lost poll", bus.run(1), 1);
        check.due("the order", bus.order(0), 3);
        check.due("no more of it", bus.read(2, 0, 1), -1);
    }

    /** Port 2 has 3 transactions a frame, two of them lost, so that it is GOING when the hub's third poll is lost. */
    private static void aHubThatFailsStopsAnEnumeration() {
        PluggedBus bus = Buses.withHub();
        bus.plug(1, Buses.KEYS, 1, 60);
        bus.run(1);
        bus.plug(2, Buses.DISK, 1, 0);
        check.due("two polls, three for port 2", bus.run(1), 2 + 3);
        for (int frame = 1; frame <= 2; frame++) {
            bus.spoil(1, Buses.TOKEN);
            bus.spoil(3, Buses.TOKEN);
            bus.spoil(4, Buses.TOKEN);
            check.due("two polls, three for port 2", bus.run(1), 2 + 3);
        }
        check.due("port 2", bus.view(2), Buses.GOING);
        bus.spoil(1, Buses.TOKEN);
        check.due("two polls", bus.run(1), 2);
        check.due("the hub", bus.view(0), Buses.FAULTS);
        check.due("port 2", bus.view(2), Buses.NOTHING);
        check.due("only port 1 is polled", bus.run(2), 2);
    }

    /** Ports 0 .. 5 one after the other: what the hub tells of port 2 is heard before port 2's turn. */
    private static void aHubsChangesAreHeardBeforeItsPortsArePolled() {
        PluggedBus bus = Buses.withHubAnd(Buses.KEYS, 1, 1);
        check.due("two polls", bus.run(1), 2);
        bus.unplug(2);
        check.due("one poll", bus.run(1), 1);
        check.due("port 2", bus.view(2), Buses.NOTHING);
    }

    private static void aPortThatFailedInAPollIsNotPolled() {
        PluggedBus bus = Buses.withKeys(1, 1);
        Buses.spoilRow(bus, 1, 3, Buses.TOKEN);
        bus.press(0, 1);
        check.due("three polls", bus.run(40), 3);
        check.due("no key", bus.keys(), 0);
        bus.unplug(0);
        bus.plug(0, Buses.KEYS, 1, 1);
        bus.press(0, 2);
        check.due("a new keyboard is", bus.run(2), 6 + 1);
        check.due("its key", bus.key(0), 2);
    }
}
