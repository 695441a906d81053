/** The document's Terms on enumeration: a test for each edge that they name. */
final class TermEnumerationTest {
    private static final Check check = new Check();

    public static void main(String[] args) {
        itHasSixTransactions();
        itMakesATransactionAgainAfterAFault();
        itFailsAtTheThirdFault();
        itFailsAtTheThirdFaultOverFrames();
        itDoesNotFailWhenOneInThreeIsDone();
        theAddressIsTheLeastFreeOne();
        itFailsWithAddressesWhenFourAreTaken();
        itFailsWithAddressesWithoutATransaction();
        itBeginsWithAFourthAddress();
        aPortThatIsEmptyIsResetToo();
        aResetTakesTheAddressThatADeviceHad();
        aResetSetsTheTogglesOfKeys();
        aResetTakesWhatKeysHold();
        aResetLeavesTheCodesThatWait();
        aResetSetsTheTogglesOfADisk();
        aResetMakesADiskIdle();
        aResetTakesWhatADiskHolds();
        aResetLeavesADisksBlocks();
        theDeviceListensToItsOldAddressUntilTheNextSetup();
        aHubFromPortTwoOnFailsWithTier();
        keysFailWithBudgetAboveNinety();
        aHubFailsWithBudgetAboveNinety();
        aDiskHasNoCost();
        onlyReadyOnesCountForTheBudget();
        aHubIsConfiguredAnewEachTime();
        aFailedPortsAddressIsFree();
        aFailedPortIsNotTriedAgain();
        check.end();
    }

    /** A hub in port 0, and KEYS in ports 1 and 2: 90 units go to polls, 10 are left for one transaction a frame. */
    private static PluggedBus withNinetyOfLoad() {
        PluggedBus bus = Buses.withHub();
        bus.plug(1, Buses.KEYS, 1, 60);
        bus.plug(2, Buses.KEYS, 1, 26);
        bus.run(6);
        check.due("load()", bus.load(), 90);
        return bus;
    }

    /** "ENUMERATION of a GOING port, one transaction after the other"; "After the IN of "configure" it is READY." */
    private static void itHasSixTransactions() {
        PluggedBus bus = withNinetyOfLoad();
        bus.plug(3, Buses.DISK, 1, 0);
        for (int k = 1; k <= 6; k++) {
            check.due("three polls and one", bus.run(1), 3 + 1);
            check.due("after " + k, bus.view(3), k < 6 ? Buses.GOING : Buses.READY);
            check.due("its address", bus.address(3), 4);
        }
        check.due("polls alone", bus.run(1), 3);
    }

    /** "It goes on to the next when one is done or taken". */
    private static void itMakesATransactionAgainAfterAFault() {
        for (int k = 1; k <= 6; k++) {
            for (int part = 0; part <= 1; part++) {
                PluggedBus bus = new PluggedBus();
                bus.plug(0, Buses.KEYS, 3, 7);
                bus.spoil(k, part);
                check.due("transaction " + k + " without part " + part, bus.run(1), 7);
                check.due("READY", bus.view(0), Buses.READY);
                check.due("with its cost", bus.load(), 7);
                check.due("and its interval", bus.run(3), 1);
            }
        }
    }

    /** "at the third fault one after the other the port fails with FAULTS." */
    private static void itFailsAtTheThirdFault() {
        for (int k = 1; k <= 6; k++) {
            PluggedBus bus = new PluggedBus();
            bus.plug(1, Buses.DISK, 1, 0);
            bus.spoil(k, Buses.TOKEN);
            bus.spoil(k + 1, Buses.DATA);
            bus.spoil(k + 2, Buses.TOKEN);
            check.due("three faults from " + k + " on", bus.run(2), k + 2);
            check.due("FAULTS", bus.view(1), Buses.FAULTS);
            check.due("no address", bus.address(1), 0);
        }
    }

    private static void itFailsAtTheThirdFaultOverFrames() {
        PluggedBus bus = withNinetyOfLoad();
        bus.plug(3, Buses.DISK, 1, 0);
        for (int k = 1; k <= 3; k++) {
            bus.spoil(4, Buses.TOKEN);
            bus.run(1);
            check.due("after fault " + k, bus.view(3), k < 3 ? Buses.GOING : Buses.FAULTS);
        }
    }

    private static void itDoesNotFailWhenOneInThreeIsDone() {
        for (int first = 1; first <= 3; first++) {
            PluggedBus bus = new PluggedBus();
            bus.plug(0, Buses.DISK, 1, 0);
            for (int k = 1; k <= 16; k++) {
                bus.spoil(k, k % 3 == first % 3 ? Buses.NO_PART : Buses.TOKEN);
            }
            bus.run(2);
            check.due("all but each third lost, from " + first, bus.view(0), Buses.READY);
        }
    }

    /** "a is the least of 1 .. 4 that no GOING or READY port has". */
    private static void theAddressIsTheLeastFreeOne() {
        PluggedBus bus = Buses.withHub();
        for (int port = 1; port <= 3; port++) {
            bus.plug(port, Buses.DISK, 1, 0);
            bus.run(1);
            check.due("one after the other, port " + port, bus.address(port), port + 1);
        }
        for (int port = 1; port <= 3; port++) {
            bus.unplug(port);
            bus.run(1);
            bus.plug(port, Buses.DISK, 1, 0);
            bus.run(1);
            check.due("the one that is free, port " + port, bus.address(port), port + 1);
        }
        bus.unplug(1);
        bus.unplug(3);
        bus.run(1);
        bus.plug(3, Buses.DISK, 1, 0);
        bus.run(1);
        check.due("the lesser of two", bus.address(3), 2);
    }

    private static PluggedBus withFourAddressesTaken() {
        PluggedBus bus = new PluggedBus();
        bus.plug(0, Buses.HUB, 0, 0);
        bus.plug(1, Buses.HUB, 0, 0);
        bus.plug(2, Buses.DISK, 1, 0);
        bus.plug(3, Buses.DISK, 1, 0);
        bus.run(5);
        for (int port = 0; port < 4; port++) {
            check.due("port " + port, bus.address(port), port + 1);
        }
        return bus;
    }

    /** "if there is none, the port fails with ADDRESSES". */
    private static void itFailsWithAddressesWhenFourAreTaken() {
        PluggedBus bus = withFourAddressesTaken();
        bus.plug(4, Buses.DISK, 1, 0);
        bus.run(1);
        check.due("a fifth", bus.view(4), Buses.ADDRESSES);
        check.due("its address", bus.address(4), 0);
        for (int port = 0; port < 4; port++) {
            check.due("port " + port + " stays", bus.view(port), Buses.READY);
        }
    }

    private static void itFailsWithAddressesWithoutATransaction() {
        PluggedBus bus = withFourAddressesTaken();
        bus.plug(4, Buses.DISK, 1, 0);
        bus.plug(5, Buses.DISK, 1, 0);
        check.due("two polls", bus.run(1), 2);
        check.due("port 4", bus.view(4), Buses.ADDRESSES);
        check.due("port 5", bus.view(5), Buses.ADDRESSES);
    }

    private static void itBeginsWithAFourthAddress() {
        PluggedBus bus = withFourAddressesTaken();
        bus.unplug(3);
        bus.plug(4, Buses.DISK, 1, 0);
        check.due("3 is not plugged in any more, two polls, enumeration", bus.run(1), 2 + 6);
        check.due("port 4", bus.view(4), Buses.READY);
        check.due("its address", bus.address(4), 4);
    }

    /** "the device in it, if any": an empty port is GOING until its third fault. */
    private static void aPortThatIsEmptyIsResetToo() {
        PluggedBus bus = Buses.withHub();
        bus.plug(2, Buses.DISK, 1, 0);
        bus.spoil(1, Buses.DATA);
        bus.run(1);
        bus.unplug(2);
        check.due("a poll, three faults", bus.run(1), 1 + 3);
        check.due("port 2", bus.view(2), Buses.FAULTS);
        check.due("its address is free", bus.address(2), 0);
    }

    /**
     * "the device in it, if any, has address 0, .. listens to 0": port 2 fails with address 3, port 3 gets it, and the
     * hub tells of port 2 again. Two lost tokens leave port 2 GOING, reset and without a new address, when port 3 is
     * polled.
     */
    private static void aResetTakesTheAddressThatADeviceHad() {
        PluggedBus bus = Buses.withHub();
        bus.plug(1, Buses.KEYS, 1, 26);
        bus.run(1);
        bus.plug(2, Buses.DISK, 1, 0);
        bus.plug(3, Buses.KEYS, 1, 10);
        bus.spoil(1, Buses.DATA);
        check.due("two polls", bus.run(1), 2);
        bus.unplug(2);
        bus.plug(2, Buses.DISK, 1, 0);
        Buses.spoilRow(bus, 5, 3, Buses.HANDSHAKE);
        check.due("two polls, 5 of port 2, 2 of port 3", bus.run(1), 2 + 5 + 2);
        check.due("port 2", bus.view(2), Buses.FAULTS);
        check.due("port 3's address", bus.address(3), 3);
        bus.spoil(3, Buses.TOKEN);
        Buses.spoilRow(bus, 8, 2, Buses.TOKEN);
        check.due("two polls, 5 of port 3, 2 of port 2", bus.run(1), 2 + 5 + 2);
        check.due("port 3", bus.view(3), Buses.READY);
        check.due("port 2", bus.view(2), Buses.GOING);
        check.due("port 2's address", bus.address(2), 4);
        bus.press(3, 7);
        check.due("three polls, 6 of port 2", bus.run(1), 3 + 6);
        check.due("port 3 was polled", bus.key(0), 3 * 256 + 7);
        check.due("port 2", bus.view(2), Buses.READY);
    }

    /** "its toggles and BUSY are 0, it holds nothing": after one key both sides' toggles are 1. */
    private static void aResetSetsTheTogglesOfKeys() {
        PluggedBus bus = Buses.withHubThatWillTellAgainOf(Buses.KEYS, 1, 1);
        bus.press(2, 1);
        bus.spoil(1, Buses.TOKEN);
        check.due("the hub's poll is lost, a key", bus.run(1), 2);
        check.due("keys()", bus.keys(), 1);
        check.due("enumeration again", bus.run(1), 1 + 6);
        bus.press(2, 2);
        bus.run(1);
        check.due("the next key", bus.key(0), 2 * 256 + 2);
        check.due("keys()", bus.keys(), 2);
    }

    private static void aResetTakesWhatKeysHold() {
        PluggedBus bus = Buses.withHubThatWillTellAgainOf(Buses.KEYS, 1, 1);
        bus.press(2, 1);
        bus.press(2, 2);
        bus.spoil(1, Buses.TOKEN);
        bus.spoil(2, Buses.DATA);
        check.due("two polls are lost", bus.run(1), 2);
        check.due("enumeration again", bus.run(1), 1 + 6);
        bus.run(2);
        check.due("what was held never comes", bus.keys(), 1);
        check.due("what waited does", bus.key(0), 2 * 256 + 2);
    }

    /** "the codes that wait at KEYS stay". */
    private static void aResetLeavesTheCodesThatWait() {
        PluggedBus bus = Buses.withHubThatWillTellAgainOf(Buses.KEYS, 1, 1);
        for (int code = 1; code <= 4; code++) {
            bus.press(2, code);
        }
        check.due("enumeration again", bus.run(1), 1 + 6);
        check.due("four wait", bus.press(2, 5), false);
        bus.run(5);
        check.due("and come", bus.keys(), 4);
        for (int back = 0; back < 4; back++) {
            check.due("key(" + back + ")", bus.key(back), 2 * 256 + 4 - back);
        }
    }

    /** An odd number of OUTs and of INs before the reset. */
    private static void aResetSetsTheTogglesOfADisk() {
        PluggedBus bus = Buses.withHubThatWillTellAgainOf(Buses.DISK, 2, 0);
        bus.write(2, 0, 2, 5);
        bus.spoil(1, Buses.TOKEN);
        check.due("the hub's poll is lost, 3 OUTs, an IN", bus.run(1), 1 + 4);
        check.due("enumeration again", bus.run(1), 1 + 6);
        bus.write(2, 0, 1, 8);
        bus.read(2, 0, 1);
        check.due("a poll, 3 and 3", bus.run(1), 1 + 6);
        check.due("image(2, 0)", bus.image(2, 0), 8);
        check.due("got(2, 0)", bus.got(2, 0), 8);
    }

    /** "a DISK is IDLE": the frame's 12 transactions end behind a block of the second write. */
    private static void aResetMakesADiskIdle() {
        PluggedBus bus = Buses.withHubThatWillTellAgainOf(Buses.DISK, 8, 3);
        bus.write(2, 0, 1, 5);
        bus.write(2, 1, 4, 60);
        bus.spoil(1, Buses.TOKEN);
        check.due("6 for the first, 6 for the second", bus.run(1), 1 + 12);
        check.due("its second block", bus.image(2, 2), 61);
        check.due("enumeration again", bus.run(1), 1 + 6);
        check.due("the order", bus.order(1), 3);
        bus.write(2, 7, 1, 9);
        check.due("a command, the delay, a block, the status", bus.run(1), 1 + 1 + 3 + 1 + 1);
        check.due("DONE", bus.order(2), 1);
        check.due("the new order's block", bus.image(2, 7), 9);
        check.due("the old order's third block", bus.image(2, 3), 0);
    }

    private static void aResetTakesWhatADiskHolds() {
        PluggedBus bus = Buses.withHubThatWillTellAgainOf(Buses.DISK, 8, 3);
        bus.write(2, 0, 2, 5);
        bus.read(2, 0, 4);
        bus.spoil(1, Buses.TOKEN);
        bus.spoil(13, Buses.DATA);
        check.due("7 for the write, then the read's first block is lost", bus.run(1), 1 + 12);
        check.due("nothing was taken", bus.got(1, 0), 0);
        check.due("enumeration again", bus.run(1), 1 + 6);
        bus.read(2, 1, 1);
        check.due("a command, the delay, a block, the status", bus.run(1), 1 + 1 + 3 + 1 + 1);
        check.due("the new order's block", bus.got(2, 0), 6);
    }

    private static void aResetLeavesADisksBlocks() {
        PluggedBus bus = Buses.withHubThatWillTellAgainOf(Buses.DISK, 4, 0);
        bus.write(2, 0, 4, 5);
        bus.spoil(1, Buses.TOKEN);
        bus.run(1);
        check.due("enumeration again", bus.run(1), 1 + 6);
        for (int k = 0; k < 4; k++) {
            check.due("image(2, " + k + ")", bus.image(2, k), 5 + k);
        }
    }

    /** "A device LISTENS to its address, and to the one at which its latest SETUP since the reset came." */
    private static void theDeviceListensToItsOldAddressUntilTheNextSetup() {
        PluggedBus bus = new PluggedBus();
        bus.plug(0, Buses.DISK, 1, 0);
        Buses.spoilRow(bus, 1, 2, Buses.HANDSHAKE);
        check.due("address 1 said three times at address 0", bus.run(1), 8);
        check.due("READY", bus.view(0), Buses.READY);
        bus.plug(1, Buses.DISK, 2, 0);
        Buses.spoilRow(bus, 2, 2, Buses.TOKEN);
        check.due("asked three times at address 0", bus.run(1), 8);
        check.due("an order of the second disk's block", bus.read(1, 1, 1), 0);
        check.due("in range", bus.order(0), 0);
    }

    /** "a HUB in a port from 2 on fails with TIER". */
    private static void aHubFromPortTwoOnFailsWithTier() {
        for (int port = 0; port < 6; port++) {
            PluggedBus bus = new PluggedBus();
            if (port >= 2) {
                bus.plug(port / 2 - 1, Buses.HUB, 0, 0);
                bus.run(1);
            }
            bus.plug(port, Buses.HUB, 0, 0);
            check.due("a hub in port " + port, bus.run(1), port < 2 ? 6 : 1 + 4);
            check.due("view(" + port + ")", bus.view(port), port < 2 ? Buses.READY : Buses.TIER);
            check.due("load()", bus.load(), 4);
        }
    }

    /** "KEYS and HUBs whose cost .. and those of all that are READY together are more than 90 fail with BUDGET." */
    private static void keysFailWithBudgetAboveNinety() {
        for (int cost = 29; cost <= 32; cost++) {
            PluggedBus bus = Buses.withKeys(8, 60);
            bus.plug(1, Buses.KEYS, 8, cost);
            check.due("60 + " + cost, bus.run(1), cost <= 30 ? 6 : 4);
            check.due("view(1)", bus.view(1), cost <= 30 ? Buses.READY : Buses.BUDGET);
            check.due("load()", bus.load(), cost <= 30 ? 60 + cost : 60);
        }
    }

    /** "(a HUB's is 4)". */
    private static void aHubFailsWithBudgetAboveNinety() {
        for (int cost = 21; cost <= 24; cost++) {
            PluggedBus bus = Buses.withHub();
            bus.plug(2, Buses.KEYS, 8, 60);
            bus.plug(3, Buses.KEYS, 8, cost);
            bus.run(2);
            check.due("4 + 60 + " + cost, bus.load(), 64 + cost);
            bus.plug(1, Buses.HUB, 0, 0);
            bus.run(1);
            check.due("and 4", bus.view(1), cost <= 22 ? Buses.READY : Buses.BUDGET);
            check.due("load()", bus.load(), cost <= 22 ? 68 + cost : 64 + cost);
        }
    }

    private static void aDiskHasNoCost() {
        PluggedBus bus = withNinetyOfLoad();
        bus.plug(3, Buses.DISK, 8, 3);
        bus.run(6);
        check.due("a disk beside 90", bus.view(3), Buses.READY);
        check.due("load()", bus.load(), 90);
    }

    private static void onlyReadyOnesCountForTheBudget() {
        PluggedBus bus = Buses.withHub();
        bus.plug(1, Buses.KEYS, 1, 60);
        bus.run(1);
        bus.plug(2, Buses.KEYS, 1, 60);
        bus.run(2);
        check.due("4 + 60 + 60", bus.view(2), Buses.BUDGET);
        bus.plug(3, Buses.KEYS, 1, 26);
        bus.run(3);
        check.due("4 + 60 + 26: what failed does not count", bus.view(3), Buses.READY);
        Buses.spoilRow(bus, 2, 1, Buses.TOKEN);
        Buses.spoilRow(bus, 5, 1, Buses.TOKEN);
        Buses.spoilRow(bus, 8, 1, Buses.TOKEN);
        bus.run(3);
        check.due("port 1 fails", bus.view(1), Buses.FAULTS);
        bus.unplug(2);
        bus.plug(2, Buses.KEYS, 1, 60);
        bus.run(3);
        check.due("and leaves room", bus.view(2), Buses.READY);
        check.due("load()", bus.load(), 4 + 26 + 60);
    }

    /** "it is configured (a HUB marks its changes, anew each time)": between two of them port 4 is emptied. */
    private static void aHubIsConfiguredAnewEachTime() {
        for (int full = 0; full <= 1; full++) {
            PluggedBus bus = new PluggedBus();
            bus.plug(0, Buses.DISK, 1, 0);
            bus.plug(1, Buses.HUB, 0, 0);
            bus.plug(4, Buses.DISK, 1, 0);
            Buses.spoilRow(bus, 1, 3, Buses.TOKEN);
            Buses.spoilRow(bus, 7, 2, Buses.TOKEN);
            bus.spoil(10, Buses.HANDSHAKE);
            check.due("a full frame", bus.run(1), 10);
            if (full == 0) {
                bus.unplug(4);
            }
            check.due("the second configure and its answer", bus.run(1), 2);
            bus.spoil(1, Buses.HANDSHAKE);
            check.due("told or refused", bus.run(1), full == 0 ? 1 : 1 + 6);
            bus.plug(5, Buses.DISK, 1, 0);
            check.due("a packet that is new only if none was held", bus.run(1), full == 0 ? 1 + 6 : 1);
            check.due("port 5", bus.view(5), full == 0 ? Buses.READY : Buses.NOTHING);
        }
    }

    /** "A failed port is closed, its address is free." */
    private static void aFailedPortsAddressIsFree() {
        PluggedBus bus = new PluggedBus();
        bus.plug(0, Buses.DISK, 1, 0);
        bus.plug(1, Buses.DISK, 1, 0);
        Buses.spoilRow(bus, 1, 3, Buses.TOKEN);
        check.due("three faults, then port 1", bus.run(1), 3 + 6);
        check.due("port 0's address", bus.address(0), 0);
        check.due("port 1's address", bus.address(1), 1);
        bus = Buses.withHubAnd(Buses.HUB, 0, 0);
        bus.plug(1, Buses.DISK, 1, 0);
        bus.run(1);
        check.due("after TIER", bus.address(1), 2);
        bus = Buses.withKeys(1, 60);
        bus.plug(1, Buses.KEYS, 1, 31);
        bus.run(1);
        check.due("BUDGET", bus.view(1), Buses.BUDGET);
        check.due("no address", bus.address(1), 0);
    }

    private static void aFailedPortIsNotTriedAgain() {
        PluggedBus bus = withFourAddressesTaken();
        bus.plug(4, Buses.DISK, 1, 0);
        bus.run(1);
        bus.unplug(3);
        check.due("polls alone", bus.run(3), 6);
        check.due("ADDRESSES, though one is free", bus.view(4), Buses.ADDRESSES);
        bus = Buses.withKeys(1, 60);
        bus.plug(1, Buses.KEYS, 1, 31);
        bus.run(1);
        bus.unplug(0);
        check.due("no transaction", bus.run(3), 0);
        check.due("BUDGET, though there is room", bus.view(1), Buses.BUDGET);
        bus = new PluggedBus();
        bus.plug(0, Buses.DISK, 1, 0);
        Buses.spoilRow(bus, 1, 3, Buses.TOKEN);
        check.due("three faults", bus.run(40), 3);
        check.due("FAULTS", bus.view(0), Buses.FAULTS);
    }
}
