/** The document's Terms on transactions: a test for each edge that its lines SETUP, OUT and IN name. */
final class TermTransactionsTest {
    private static final Check check = new Check();

    public static void main(String[] args) {
        aLostTokenIsAFault();
        aLostTokenLeavesADeviceAsItWas();
        keysThatAreNotThereAreAFault();
        aDiskThatIsNotThereIsAFault();
        aSetupsLostDataIsAFault();
        aSetupsLostHandshakeIsAFault();
        anOutsLostDataIsAFault();
        anOutsLostDataLeavesADiskAsItWas();
        anOutThatWasTakenIsAgreedToAndNotTakenAgain();
        anOutThatWasTakenIsAgreedToByABusyDisk();
        aBusyDiskRefusesDataOfAWrite();
        aBusyDiskTakesNoRefusedPacket();
        anOutsLostHandshakeIsAFault();
        anOutWithALostHandshakeWasTaken();
        aRefusalWithALostHandshakeWasOne();
        anInOfNothingIsRefused();
        aBusyDiskMakesNoPacket();
        aPacketIsMadeThoughItsDataIsLost();
        anInsLostDataIsAFault();
        aLostRefusalIsAFault();
        aLostRefusalOfABusyDiskWasOne();
        aPacketWithALostHandshakeIsSentAgain();
        aPacketIsSentAgainUntilTheDeviceKnows();
        aPacketIsMadeOnlyWhenNoneIsHeld();
        aRefusalHasNoHandshake();
        anAnswerIsTakenInAnyCase();
        anAnswersLostDataIsAFault();
        aRefusalIsNoFault();
        whatIsNoFaultSetsTheCountToZero();
        faultsAreCountedForEachKeyboard();
        faultsAreCountedForEachDisk();
        faultsOfPollsAreNotThoseOfEnumeration();
        check.end();
    }

    private static PluggedBus newWithDisk() {
        PluggedBus bus = new PluggedBus();
        bus.plug(0, Buses.DISK, 1, 0);
        return bus;
    }

    /** "without it, or if the token is lost, nothing happens: a FAULT." */
    private static void aLostTokenIsAFault() {
        for (int k = 1; k <= 6; k++) {
            PluggedBus bus = newWithDisk();
            Buses.spoilRow(bus, k, 3, Buses.TOKEN);
            check.due("three tokens lost from " + k + " on", bus.run(1), k + 2);
            check.due("the port", bus.view(0), Buses.FAULTS);
        }
        for (int k = 1; k <= 3; k++) {
            PluggedBus bus = Buses.withDisk(1, 0);
            bus.read(0, 0, 1);
            Buses.spoilRow(bus, k, 3, Buses.TOKEN);
            check.due("three tokens of an order from " + k + " on", bus.run(1), k + 2);
            check.due("the order", bus.order(0), 2);
        }
        PluggedBus bus = Buses.withKeys(1, 1);
        Buses.spoilRow(bus, 1, 3, Buses.TOKEN);
        check.due("three tokens of polls", bus.run(5), 3);
        check.due("the keys", bus.view(0), Buses.FAULTS);
    }

    private static void aLostTokenLeavesADeviceAsItWas() {
        PluggedBus bus = Buses.withKeys(1, 1);
        for (int code = 1; code <= 4; code++) {
            bus.press(0, code);
        }
        bus.spoil(1, Buses.TOKEN);
        bus.run(1);
        check.due("all four codes wait", bus.press(0, 5), false);
        bus = Buses.withDisk(1, 1);
        bus.write(0, 0, 1, 9);
        bus.spoil(2, Buses.TOKEN);
        check.due("a write's delay does not wear off", bus.run(1), 1 + 1 + 1 + 1 + 1);
        bus.read(0, 0, 1);
        bus.spoil(2, Buses.TOKEN);
        check.due("nor a read's", bus.run(1), 1 + 1 + 1 + 1 + 1);
        bus = Buses.withDisk(1, 0);
        bus.write(0, 0, 1, 9);
        Buses.spoilRow(bus, 2, 3, Buses.TOKEN);
        bus.run(1);
        check.due("no block is written", bus.image(0, 0), 0);
    }

    /** A hub with a disk in port 3 whose packet of it the hub sends again and again, while port 2 is emptied. */
    private static PluggedBus withAHubThatRepeatsItself(int kind, int a, int b) {
        PluggedBus bus = Buses.withHubAnd(kind, a, b);
        bus.plug(3, Buses.DISK, 1, 0);
        bus.spoil(1, Buses.HANDSHAKE);
        bus.run(1);
        check.due("port 3 is ready", bus.view(3), Buses.READY);
        bus.unplug(2);
        return bus;
    }

    private static void keysThatAreNotThereAreAFault() {
        PluggedBus bus = withAHubThatRepeatsItself(Buses.KEYS, 1, 1);
        for (int k = 1; k <= 5; k += 2) {
            bus.spoil(k, Buses.HANDSHAKE);
        }
        check.due("two frames, each with two polls", bus.run(2), 4);
        check.due("two faults", bus.view(2), Buses.READY);
        check.due("a third frame", bus.run(1), 2);
        check.due("three faults", bus.view(2), Buses.FAULTS);
        bus.run(2);
        check.due("then the hub tells", bus.view(2), Buses.NOTHING);
    }

    private static void aDiskThatIsNotThereIsAFault() {
        PluggedBus bus = withAHubThatRepeatsItself(Buses.DISK, 1, 0);
        bus.write(2, 0, 1, 1);
        bus.write(3, 0, 1, 2);
        bus.spoil(1, Buses.HANDSHAKE);
        check.due("a poll, three of each disk", bus.run(1), 1 + 3 + 3);
        check.due("the disk that is not there", bus.order(0), 2);
        check.due("the other one", bus.order(1), 1);
        check.due("port 2", bus.view(2), Buses.FAULTS);
    }

    /** "SETUP: if the data is lost: a fault." */
    private static void aSetupsLostDataIsAFault() {
        threeFaultsOfASetup(Buses.DATA);
    }

    /** "Else the device does the request; if the handshake is lost: a fault, else done." */
    private static void aSetupsLostHandshakeIsAFault() {
        threeFaultsOfASetup(Buses.HANDSHAKE);
    }

    private static void threeFaultsOfASetup(int part) {
        for (int k = 1; k <= 5; k += 2) {
            PluggedBus bus = newWithDisk();
            Buses.spoilRow(bus, k, 2, part);
            check.due("twice a SETUP " + k + " without part " + part, bus.run(1), 6 + 2);
            check.due("the port", bus.view(0), Buses.READY);
            bus = newWithDisk();
            Buses.spoilRow(bus, k, 3, part);
            check.due("three times a SETUP " + k + " without part " + part, bus.run(1), k + 2);
            check.due("the port", bus.view(0), Buses.FAULTS);
        }
    }

    /** "OUT, to a DISK's OUT side: if the data is lost: a fault." */
    private static void anOutsLostDataIsAFault() {
        threeFaultsOfAnOut(Buses.DATA);
    }

    /** "If the handshake (what it says) is lost: a fault." */
    private static void anOutsLostHandshakeIsAFault() {
        threeFaultsOfAnOut(Buses.HANDSHAKE);
    }

    private static void threeFaultsOfAnOut(int part) {
        for (int k = 1; k <= 3; k++) {
            PluggedBus bus = Buses.withDisk(2, 0);
            bus.write(0, 0, 2, 1);
            Buses.spoilRow(bus, k, 2, part);
            check.due("twice OUT " + k + " without part " + part, bus.run(1), 4 + 2);
            check.due("the order", bus.order(0), 1);
            bus = Buses.withDisk(2, 0);
            bus.write(0, 0, 2, 1);
            Buses.spoilRow(bus, k, 3, part);
            check.due("three times OUT " + k + " without part " + part, bus.run(1), k + 2);
            check.due("the order", bus.order(0), 2);
            check.due("the port", bus.view(0), Buses.FAULTS);
        }
    }

    private static void anOutsLostDataLeavesADiskAsItWas() {
        PluggedBus bus = Buses.withDisk(1, 0);
        bus.write(0, 0, 1, 9);
        Buses.spoilRow(bus, 2, 3, Buses.DATA);
        bus.run(1);
        check.due("no block is written", bus.image(0, 0), 0);
        bus = Buses.withDisk(1, 2);
        bus.write(0, 0, 1, 9);
        bus.spoil(2, Buses.DATA);
        check.due("the delay does not wear off", bus.run(1), 1 + 1 + 2 + 1 + 1);
        bus = Buses.withDisk(1, 2);
        bus.write(0, 0, 1, 9);
        bus.spoil(1, Buses.DATA);
        check.due("nor is the command taken", bus.run(1), 1 + 1 + 2 + 1 + 1);
    }

    /** "Else, if the packet's toggle is not the side's: it does nothing with it and agrees." */
    private static void anOutThatWasTakenIsAgreedToAndNotTakenAgain() {
        for (int k = 1; k <= 4; k++) {
            PluggedBus bus = Buses.withDisk(4, 0);
            bus.write(0, 0, 3, 70);
            bus.spoil(k, Buses.HANDSHAKE);
            check.due("one OUT twice: " + k, bus.run(1), 5 + 1);
            check.due("the order", bus.order(0), 1);
            for (int block = 0; block < 4; block++) {
                check.due("block " + block, bus.image(0, block), block < 3 ? 70 + block : 0);
            }
        }
        PluggedBus bus = Buses.withDisk(4, 0);
        bus.read(0, 0, 2);
        bus.spoil(1, Buses.HANDSHAKE);
        check.due("a read's command twice", bus.run(1), 4 + 1);
        check.due("the order", bus.order(0), 1);
    }

    private static void anOutThatWasTakenIsAgreedToByABusyDisk() {
        PluggedBus bus = Buses.withDisk(2, 2);
        bus.write(0, 0, 2, 5);
        bus.spoil(1, Buses.HANDSHAKE);
        check.due("the command twice, then two refusals", bus.run(1), 2 + 2 + 2 + 1);
        check.due("block 1", bus.image(0, 1), 6);
    }

    /** "Else, if it must take data for a write and BUSY is not 0: BUSY goes down by 1, it refuses." */
    private static void aBusyDiskRefusesDataOfAWrite() {
        for (int delay = 0; delay <= 3; delay++) {
            for (int count = 1; count <= 4; count++) {
                PluggedBus bus = Buses.withDisk(4, delay);
                bus.write(0, 0, count, 1);
                check.due("delay " + delay + ", count " + count, bus.run(1), 1 + delay + count + 1);
                check.due("the order", bus.order(0), 1);
                bus.write(0, 0, count, 1);
                check.due("and the next one the same", bus.run(1), 1 + delay + count + 1);
            }
        }
    }

    /** 12 transactions: a write of 9 in all, then a command and two of three refusals. */
    private static void aBusyDiskTakesNoRefusedPacket() {
        PluggedBus bus = Buses.withDisk(8, 3);
        bus.write(0, 0, 4, 1);
        bus.write(0, 4, 1, 60);
        check.due("a full frame", bus.run(1), 12);
        check.due("refused so far", bus.image(0, 4), 0);
        check.due("a refusal, the block, the status", bus.run(1), 3);
        check.due("taken", bus.image(0, 4), 60);
    }

    private static void anOutWithALostHandshakeWasTaken() {
        PluggedBus bus = Buses.withDisk(1, 0);
        bus.write(0, 0, 1, 9);
        Buses.spoilRow(bus, 2, 3, Buses.HANDSHAKE);
        bus.run(1);
        check.due("the order", bus.order(0), 2);
        check.due("but the block is written", bus.image(0, 0), 9);
    }

    private static void aRefusalWithALostHandshakeWasOne() {
        PluggedBus bus = Buses.withDisk(1, 3);
        bus.write(0, 0, 1, 9);
        Buses.spoilRow(bus, 2, 2, Buses.HANDSHAKE);
        check.due("three refusals, two of them lost", bus.run(1), 1 + 3 + 1 + 1);
        check.due("the order", bus.order(0), 1);
        bus.write(0, 0, 1, 9);
        Buses.spoilRow(bus, 2, 3, Buses.HANDSHAKE);
        check.due("three refusals, all of them lost", bus.run(1), 1 + 3);
        check.due("the order", bus.order(1), 2);
    }

    /** "If it holds none, it refuses." */
    private static void anInOfNothingIsRefused() {
        PluggedBus bus = Buses.withKeys(1, 1);
        check.due("polls of keys without codes", bus.run(20), 20);
        check.due("bring nothing", bus.keys(), 0);
        check.due("and do no harm", bus.view(0), Buses.READY);
        bus = Buses.withHub();
        check.due("polls of a hub without changes", bus.run(20), 20);
        check.due("do none either", bus.view(0), Buses.READY);
    }

    /** "a DISK that has one to make while BUSY is not 0 does not: BUSY goes down by 1." */
    private static void aBusyDiskMakesNoPacket() {
        for (int delay = 0; delay <= 3; delay++) {
            for (int count = 1; count <= 4; count++) {
                PluggedBus bus = Buses.withDisk(4, delay);
                bus.read(0, 0, count);
                check.due("delay " + delay + ", count " + count, bus.run(1), 1 + delay + count + 1);
                check.due("the order", bus.order(0), 1);
                bus.read(0, 0, count);
                check.due("and the next one the same", bus.run(1), 1 + delay + count + 1);
            }
        }
    }

    /** "if the device HOLDS no packet, it makes the next one, if there is one, and holds it". */
    private static void aPacketIsMadeThoughItsDataIsLost() {
        PluggedBus bus = Buses.withKeys(1, 1);
        for (int code = 1; code <= 4; code++) {
            bus.press(0, code);
        }
        bus.spoil(1, Buses.DATA);
        bus.run(1);
        check.due("a code waits no more", bus.press(0, 5), true);
        check.due("but has not come", bus.keys(), 0);
        bus.run(5);
        for (int back = 0; back < 5; back++) {
            check.due("key(" + back + ")", bus.key(back), 5 - back);
        }
    }

    /** "If the data (the packet or the refusal) is lost: a fault." */
    private static void anInsLostDataIsAFault() {
        PluggedBus bus = Buses.withKeys(1, 1);
        bus.press(0, 8);
        Buses.spoilRow(bus, 1, 2, Buses.DATA);
        bus.run(3);
        check.due("lost twice, then taken", bus.key(0), 8);
        bus.press(0, 9);
        Buses.spoilRow(bus, 1, 3, Buses.DATA);
        check.due("lost three times", bus.run(4), 3);
        check.due("never taken", bus.keys(), 1);
        check.due("the port", bus.view(0), Buses.FAULTS);
        for (int k = 2; k <= 4; k++) {
            bus = Buses.withDisk(2, 0);
            bus.read(0, 0, 2);
            Buses.spoilRow(bus, k, 3, Buses.DATA);
            check.due("a disk's packet " + k + " lost three times", bus.run(1), k + 2);
            check.due("the order", bus.order(0), 2);
        }
    }

    private static void aLostRefusalIsAFault() {
        PluggedBus bus = Buses.withKeys(1, 1);
        Buses.spoilRow(bus, 1, 3, Buses.DATA);
        check.due("three refusals lost", bus.run(4), 3);
        check.due("the port", bus.view(0), Buses.FAULTS);
    }

    private static void aLostRefusalOfABusyDiskWasOne() {
        PluggedBus bus = Buses.withDisk(1, 3);
        bus.read(0, 0, 1);
        Buses.spoilRow(bus, 2, 2, Buses.DATA);
        check.due("three refusals, two of them lost", bus.run(1), 1 + 3 + 1 + 1);
        check.due("the order", bus.order(0), 1);
        bus.read(0, 0, 1);
        Buses.spoilRow(bus, 2, 3, Buses.DATA);
        check.due("three refusals, all of them lost", bus.run(1), 1 + 3);
        check.due("the order", bus.order(1), 2);
    }

    /** "if the handshake is lost, the device does not know"; "else it has it already and does nothing more with it." */
    private static void aPacketWithALostHandshakeIsSentAgain() {
        PluggedBus bus = Buses.withKeys(1, 1);
        bus.press(0, 8);
        bus.press(0, 9);
        bus.spoil(1, Buses.HANDSHAKE);
        bus.run(1);
        check.due("taken", bus.keys(), 1);
        bus.run(1);
        check.due("had already", bus.keys(), 1);
        bus.run(1);
        check.due("the next one", bus.keys(), 2);
        check.due("its code", bus.key(0), 9);
        bus = Buses.withDisk(4, 0);
        bus.write(0, 0, 4, 31);
        bus.run(1);
        bus.read(0, 0, 4);
        for (int k = 2; k <= 8; k += 2) {
            bus.spoil(k, Buses.HANDSHAKE);
        }
        check.due("each block twice", bus.run(1), 1 + 8 + 1);
        for (int i = 0; i < 4; i++) {
            check.due("got(1, " + i + ")", bus.got(1, i), 31 + i);
        }
    }

    private static void aPacketIsSentAgainUntilTheDeviceKnows() {
        PluggedBus bus = Buses.withKeys(1, 1);
        bus.press(0, 8);
        bus.press(0, 9);
        Buses.spoilRow(bus, 1, 6, Buses.HANDSHAKE);
        bus.run(7);
        check.due("seven times the same", bus.keys(), 1);
        check.due("none of them is a fault", bus.view(0), Buses.READY);
        bus.run(1);
        check.due("then the next", bus.key(0), 9);
    }

    private static void aPacketIsMadeOnlyWhenNoneIsHeld() {
        PluggedBus bus = Buses.withKeys(1, 1);
        for (int code = 1; code <= 4; code++) {
            bus.press(0, code);
        }
        Buses.spoilRow(bus, 1, 2, Buses.DATA);
        bus.spoil(3, Buses.HANDSHAKE);
        bus.run(4);
        check.due("one is taken", bus.keys(), 1);
        check.due("three wait, so one more may", bus.press(0, 5), true);
        check.due("but not two", bus.press(0, 6), false);
    }

    /** "The host agrees to a packet": to a refusal it says nothing that could be lost. */
    private static void aRefusalHasNoHandshake() {
        PluggedBus bus = Buses.withKeys(1, 1);
        Buses.spoilRow(bus, 1, 6, Buses.HANDSHAKE);
        check.due("six refusals", bus.run(6), 6);
        check.due("no fault", bus.view(0), Buses.READY);
        bus = Buses.withDisk(1, 3);
        bus.read(0, 0, 1);
        Buses.spoilRow(bus, 2, 3, Buses.HANDSHAKE);
        check.due("three of a disk", bus.run(1), 1 + 3 + 1 + 1);
        check.due("the order", bus.order(0), 1);
    }

    /** "(An answer is taken in any case.)" */
    private static void anAnswerIsTakenInAnyCase() {
        for (int mask = 0; mask < 8; mask++) {
            PluggedBus bus = new PluggedBus();
            bus.plug(0, Buses.KEYS, 1, 1);
            for (int i = 0; i < 3; i++) {
                bus.spoil(2 + 2 * i, (mask >> i & 1) == 1 ? Buses.HANDSHAKE : Buses.NO_PART);
            }
            check.due("lost handshakes of answers, mask " + mask, bus.run(1), 6);
            check.due("the port", bus.view(0), Buses.READY);
            bus.press(0, 3);
            bus.run(1);
            check.due("the first packet is taken, too", bus.keys(), 1);
        }
    }

    /** "An answer to a request is not held: it is made anew each time." */
    private static void anAnswersLostDataIsAFault() {
        for (int k = 2; k <= 6; k += 2) {
            PluggedBus bus = newWithDisk();
            Buses.spoilRow(bus, k, 2, Buses.DATA);
            check.due("twice an answer " + k + " lost", bus.run(1), 6 + 2);
            check.due("the port", bus.view(0), Buses.READY);
            bus = newWithDisk();
            Buses.spoilRow(bus, k, 3, Buses.DATA);
            check.due("three times an answer " + k + " lost", bus.run(1), k + 2);
            check.due("the port", bus.view(0), Buses.FAULTS);
        }
    }

    /** "A refusal is no fault." */
    private static void aRefusalIsNoFault() {
        PluggedBus bus = Buses.withDisk(1, 3);
        bus.read(0, 0, 1);
        bus.write(0, 0, 1, 1);
        check.due("three refusals in a row, twice", bus.run(1), 6 + 6);
        check.due("the read", bus.order(0), 1);
        check.due("the write", bus.order(1), 1);
        bus.write(0, 0, 1, 2);
        Buses.spoilRow(bus, 1, 2, Buses.TOKEN);
        Buses.spoilRow(bus, 5, 2, Buses.TOKEN);
        check.due("faults round a refusal", bus.run(1), 6 + 4);
        check.due("the write", bus.order(2), 1);
    }

    /** "what is no fault sets the count to 0." */
    private static void whatIsNoFaultSetsTheCountToZero() {
        PluggedBus bus = Buses.withKeys(1, 1);
        Buses.spoilRow(bus, 1, 2, Buses.TOKEN);
        Buses.spoilRow(bus, 4, 2, Buses.DATA);
        bus.run(6);
        check.due("a refusal", bus.view(0), Buses.READY);
        bus.press(0, 1);
        Buses.spoilRow(bus, 1, 2, Buses.TOKEN);
        bus.spoil(3, Buses.HANDSHAKE);
        Buses.spoilRow(bus, 4, 2, Buses.TOKEN);
        bus.run(5);
        check.due("a packet that is taken", bus.view(0), Buses.READY);
        check.due("keys()", bus.keys(), 1);
        bus.spoil(1, Buses.HANDSHAKE);
        Buses.spoilRow(bus, 2, 2, Buses.TOKEN);
        bus.run(3);
        check.due("a packet that it had already", bus.view(0), Buses.READY);
        bus.spoil(1, Buses.TOKEN);
        bus.run(1);
        check.due("a third fault", bus.view(0), Buses.FAULTS);
        bus = Buses.withDisk(1, 0);
        bus.write(0, 0, 1, 1);
        Buses.spoilRow(bus, 1, 2, Buses.TOKEN);
        Buses.spoilRow(bus, 4, 2, Buses.TOKEN);
        Buses.spoilRow(bus, 7, 2, Buses.TOKEN);
        check.due("packets that are agreed to", bus.run(1), 3 + 6);
        check.due("the order", bus.order(0), 1);
    }

    /** "FAULTS one after the other are counted .. for each device's polls": two and two are not four. */
    private static void faultsAreCountedForEachKeyboard() {
        PluggedBus bus = Buses.withKeys(1, 1);
        bus.plug(1, Buses.KEYS, 1, 1);
        bus.run(1);
        Buses.spoilRow(bus, 1, 4, Buses.TOKEN);
        check.due("two frames", bus.run(2), 4);
        check.due("port 0", bus.view(0), Buses.READY);
        check.due("port 1", bus.view(1), Buses.READY);
        bus.spoil(2, Buses.TOKEN);
        bus.run(1);
        check.due("port 0 had no third", bus.view(0), Buses.READY);
        check.due("port 1 had", bus.view(1), Buses.FAULTS);
    }

    /** "and each DISK's transactions". */
    private static void faultsAreCountedForEachDisk() {
        PluggedBus bus = Buses.withTwoDisks();
        bus.read(0, 0, 1);
        bus.read(1, 0, 1);
        Buses.spoilRow(bus, 1, 4, Buses.TOKEN);
        check.due("two faults of each", bus.run(1), 4 + 6);
        check.due("port 0's", bus.order(0), 1);
        check.due("port 1's", bus.order(1), 1);
        bus.read(0, 0, 1);
        bus.read(1, 0, 1);
        Buses.spoilRow(bus, 1, 5, Buses.TOKEN);
        check.due("three of port 0, two of port 1", bus.run(1), 3 + 2 + 3);
        check.due("port 0's", bus.order(2), 2);
        check.due("port 1's", bus.order(3), 1);
    }

    private static void faultsOfPollsAreNotThoseOfEnumeration() {
        PluggedBus bus = Buses.withKeys(1, 1);
        bus.plug(1, Buses.DISK, 1, 0);
        Buses.spoilRow(bus, 1, 3, Buses.TOKEN);
        check.due("a lost poll, two faults", bus.run(1), 1 + 2 + 6);
        check.due("the keys", bus.view(0), Buses.READY);
        check.due("the disk", bus.view(1), Buses.READY);
        bus.write(1, 0, 1, 1);
        Buses.spoilRow(bus, 1, 3, Buses.TOKEN);
        check.due("a lost poll, two faults of an order", bus.run(1), 1 + 2 + 3);
        check.due("the keys", bus.view(0), Buses.READY);
        check.due("the order", bus.order(0), 1);
    }
}
