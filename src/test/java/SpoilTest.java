/** Promise 5: spoil, and what each part's loss does to each kind of transaction. */
final class SpoilTest {
    private static final Check check = new Check();

    public static void main(String[] args) {
        refusesOtherNumbers();
        countsFromNow();
        countsEachOfTheForty();
        reachesFortyAhead();
        losesOnlyThatOne();
        namesTheSameOneLater();
        standsInPlaceOfWhatWasSaid();
        changesNothingWhenItRefuses();
        spoilsSetups();
        spoilsAnswers();
        spoilsOuts();
        spoilsRefusals();
        spoilsIns();
        holdsAnOldStatusWhileTheNextCommandComes();
        needsThreeFaultsInARow();
        check.end();
    }

    /** "False .. when a number is not as said." */
    private static void refusesOtherNumbers() {
        PluggedBus bus = new PluggedBus();
        int[] wrongAheads = {0, 41, -1, Integer.MIN_VALUE, Integer.MAX_VALUE};
        for (int k : wrongAheads) {
            check.due("spoil(" + k + ", 0)", bus.spoil(k, 0), false);
        }
        int[] wrongParts = {-1, 4, Integer.MIN_VALUE, Integer.MAX_VALUE};
        for (int part : wrongParts) {
            check.due("spoil(1, " + part + ")", bus.spoil(1, part), false);
        }
        for (int part = 0; part <= 3; part++) {
            check.due("spoil(1, " + part + ")", bus.spoil(1, part), true);
            check.due("spoil(40, " + part + ")", bus.spoil(40, part), true);
        }
    }

    /** "the k-th transaction from now on". */
    private static void countsFromNow() {
        PluggedBus bus = Buses.withKeys(1, 1);
        bus.press(0, 1);
        bus.spoil(2, Buses.DATA);
        bus.run(1);
        check.due("the first one is not lost", bus.keys(), 1);
        bus.press(0, 2);
        bus.run(1);
        check.due("the second one is", bus.keys(), 1);
        bus.run(1);
        check.due("the third one is not", bus.keys(), 2);
    }

    /** "the k-th transaction from now on (1 .. 40) is lost". */
    private static void countsEachOfTheForty() {
        for (int k = 1; k <= 40; k++) {
            PluggedBus bus = Buses.withKeys(1, 1);
            check.due("spoil(" + k + ", 1)", bus.spoil(k, Buses.DATA), true);
            if (k > 1) {
                bus.run(k - 1);
            }
            bus.press(0, 1);
            bus.run(1);
            check.due("transaction " + k, bus.keys(), 0);
            bus.run(1);
            check.due("the next one", bus.keys(), 1);
        }
    }

    /** Each of 40 polls brings a code, but for the one that is lost, whose code the next one brings. */
    private static void losesOnlyThatOne() {
        for (int k = 1; k <= 40; k += 13) {
            PluggedBus bus = Buses.withKeys(1, 1);
            bus.spoil(k, Buses.TOKEN);
            for (int i = 1; i <= 82; i++) {
                bus.press(0, i);
                bus.run(1);
                check.due("spoil(" + k + ", 0), poll " + i, bus.keys(), i < k ? i : i - 1);
            }
        }
    }

    /** "In place of what was said of that one before": also when it was farther ahead then. */
    private static void namesTheSameOneLater() {
        for (int made = 0; made < 40; made++) {
            PluggedBus bus = Buses.withKeys(1, 1);
            bus.spoil(40, Buses.DATA);
            if (made > 0) {
                bus.run(made);
            }
            bus.spoil(40 - made, Buses.NO_PART);
            if (made < 39) {
                bus.run(39 - made);
            }
            bus.press(0, 1);
            bus.run(1);
            check.due("taken back after " + made, bus.keys(), 1);
        }
        PluggedBus bus = Buses.withKeys(1, 1);
        bus.spoil(3, Buses.TOKEN);
        bus.run(1);
        bus.spoil(2, Buses.HANDSHAKE);
        bus.run(1);
        bus.press(0, 1);
        bus.run(1);
        check.due("the handshake in place of the token", bus.keys(), 1);
    }

    /** What was said of one transaction is not said of the one 40 behind it. */
    private static void reachesFortyAhead() {
        PluggedBus bus = Buses.withKeys(1, 1);
        bus.run(7);
        bus.spoil(40, Buses.DATA);
        bus.run(39);
        bus.press(0, 1);
        bus.run(1);
        check.due("the 40th is lost", bus.keys(), 0);
        bus.run(1);
        check.due("the 41st is not", bus.keys(), 1);
        bus.run(38);
        bus.press(0, 2);
        bus.run(1);
        check.due("nor the 80th", bus.keys(), 2);
    }

    /** "part 3: nothing of it. In place of what was said of that one before." */
    private static void standsInPlaceOfWhatWasSaid() {
        PluggedBus bus = new PluggedBus();
        bus.plug(0, Buses.DISK, 1, 0);
        Buses.spoilRow(bus, 1, 3, Buses.TOKEN);
        bus.spoil(3, Buses.NO_PART);
        check.due("two losses only", bus.run(1), 8);
        check.due("so it is ready", bus.view(0), Buses.READY);
        bus = Buses.withKeys(1, 1);
        bus.press(0, 5);
        bus.spoil(1, Buses.TOKEN);
        bus.spoil(1, Buses.HANDSHAKE);
        bus.run(1);
        check.due("the handshake in place of the token", bus.keys(), 1);
    }

    /** "False, changing nothing". */
    private static void changesNothingWhenItRefuses() {
        PluggedBus bus = Buses.withKeys(1, 1);
        bus.press(0, 5);
        bus.spoil(1, Buses.DATA);
        bus.spoil(1, 4);
        bus.spoil(41, Buses.NO_PART);
        bus.run(1);
        check.due("the loss still stands", bus.keys(), 0);
    }

    private static void spoilsSetups() {
        for (int part = 0; part <= 2; part++) {
            for (int k = 1; k <= 5; k += 2) {
                PluggedBus bus = new PluggedBus();
                bus.plug(0, Buses.DISK, 1, 0);
                bus.spoil(k, part);
                check.due("SETUP " + k + " without part " + part, bus.run(1), 7);
                check.due("ready all the same", bus.view(0), Buses.READY);
            }
        }
        PluggedBus bus = new PluggedBus();
        bus.plug(0, Buses.DISK, 1, 0);
        Buses.spoilRow(bus, 5, 3, Buses.HANDSHAKE);
        check.due("three lost handshakes of SETUPs", bus.run(1), 7);
        check.due("are three faults", bus.view(0), Buses.FAULTS);
    }

    private static void spoilsAnswers() {
        for (int k = 2; k <= 6; k += 2) {
            int[] due = {7, 7, 6};
            for (int part = 0; part <= 2; part++) {
                PluggedBus bus = new PluggedBus();
                bus.plug(0, Buses.DISK, 1, 0);
                bus.spoil(k, part);
                check.due("answer " + k + " without part " + part, bus.run(1), due[part]);
                bus.write(0, 0, 1, 4);
                check.due("its IN side is as it was", bus.run(1), 3);
            }
        }
    }

    private static void spoilsOuts() {
        int[] writtenAtOnce = {0, 0, 9};
        for (int part = 0; part <= 2; part++) {
            PluggedBus bus = Buses.withDisk(1, 0);
            bus.write(0, 0, 1, 9);
            bus.spoil(1, part);
            check.due("a command without part " + part, bus.run(1), 4);
            check.due("the order", bus.order(0), 1);
            check.due("the block", bus.image(0, 0), 9);
            bus = Buses.withDisk(1, 0);
            bus.write(0, 0, 1, 9);
            Buses.spoilRow(bus, 2, 3, part);
            check.due("a block three times without part " + part, bus.run(1), 4);
            check.due("the order", bus.order(0), 2);
            check.due("the block", bus.image(0, 0), writtenAtOnce[part]);
        }
    }

    /** Delay 2: the disk refuses twice, and a refusal that is lost was one all the same. */
    private static void spoilsRefusals() {
        int[] dueForWrite = {6, 6, 5};
        int[] dueForRead = {6, 5, 5};
        for (int part = 0; part <= 2; part++) {
            PluggedBus bus = Buses.withDisk(1, 2);
            bus.write(0, 0, 1, 9);
            bus.spoil(2, part);
            check.due("a refused OUT without part " + part, bus.run(1), dueForWrite[part]);
            check.due("the block", bus.image(0, 0), 9);
            bus.read(0, 0, 1);
            bus.spoil(2, part);
            check.due("a refused IN without part " + part, bus.run(1), dueForRead[part]);
            check.due("the number", bus.got(1, 0), 9);
        }
        PluggedBus bus = Buses.withDisk(1, 3);
        bus.read(0, 0, 1);
        Buses.spoilRow(bus, 2, 3, Buses.HANDSHAKE);
        bus.run(1);
        check.due("a refused IN has no handshake to lose", bus.order(0), 1);
        bus.write(0, 0, 1, 9);
        Buses.spoilRow(bus, 2, 3, Buses.HANDSHAKE);
        bus.run(1);
        check.due("a refused OUT has", bus.order(1), 2);
    }

    private static void spoilsIns() {
        for (int part = 0; part <= 2; part++) {
            PluggedBus bus = Buses.withDisk(2, 0);
            bus.write(0, 0, 2, 7);
            bus.run(1);
            bus.read(0, 0, 2);
            bus.spoil(2, part);
            check.due("a block's IN without part " + part, bus.run(1), 5);
            check.due("the first number", bus.got(1, 0), 7);
            check.due("the second number", bus.got(1, 1), 8);
        }
        PluggedBus bus = Buses.withDisk(1, 0);
        bus.read(0, 0, 1);
        Buses.spoilRow(bus, 2, 10, Buses.HANDSHAKE);
        bus.run(1);
        check.due("taken once, had already after that", bus.order(0), 0);
        check.due("which is no fault", bus.view(0), Buses.READY);
        check.due("the status comes when the block is let go", bus.run(1), 1);
        check.due("and with it the end", bus.order(0), 1);
    }

    /** What a disk holds it sends first, and being busy does not wear off by that. */
    private static void holdsAnOldStatusWhileTheNextCommandComes() {
        PluggedBus bus = Buses.withDisk(1, 1);
        bus.write(0, 0, 1, 3);
        bus.read(0, 0, 1);
        bus.spoil(4, Buses.HANDSHAKE);
        check.due("4, then command, old status, refusal, block, status", bus.run(1), 9);
        check.due("the write", bus.order(0), 1);
        check.due("the read", bus.order(1), 1);
        check.due("its number", bus.got(1, 0), 3);
    }

    private static void needsThreeFaultsInARow() {
        PluggedBus bus = Buses.withKeys(1, 1);
        Buses.spoilRow(bus, 1, 2, Buses.TOKEN);
        Buses.spoilRow(bus, 4, 2, Buses.DATA);
        bus.run(6);
        check.due("a refusal between them", bus.view(0), Buses.READY);
        bus.press(0, 1);
        Buses.spoilRow(bus, 1, 2, Buses.DATA);
        bus.spoil(3, Buses.HANDSHAKE);
        bus.run(4);
        check.due("a key between them", bus.keys(), 1);
        Buses.spoilRow(bus, 1, 2, Buses.TOKEN);
        bus.run(2);
        check.due("two", bus.view(0), Buses.READY);
        bus.spoil(1, Buses.DATA);
        bus.run(1);
        check.due("and a third", bus.view(0), Buses.FAULTS);
        check.due("no polls any more", bus.run(5), 0);
    }
}
