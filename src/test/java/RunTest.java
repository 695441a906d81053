/** Promise 8: run, with the parts of a frame. */
final class RunTest {
    private static final Check check = new Check();

    public static void main(String[] args) {
        takesOneToForty();
        enumeratesTenTransactionsAFrame();
        spendsOnPollsFirst();
        usesTheLastUnits();
        pollsByTheFramesNumber();
        pollsInTheOrderOfPorts();
        servesDisksInTurn();
        remembersWhichDiskWasServedLast();
        hearsOfChangesWhenToldOnly();
        hearsTwiceWhatIsSentTwiceOnce();
        configuresAHubAnew();
        resetsADiskInTheMidstOfItsWork();
        countsFaultsOfAnEnumerationAlone();
        check.end();
    }

    /** "Makes n frames (1 .. 40)"; "-1, making none, for another n." */
    private static void takesOneToForty() {
        int[] wrong = {0, 41, -1, Integer.MIN_VALUE, Integer.MAX_VALUE};
        for (int n : wrong) {
            PluggedBus bus = new PluggedBus();
            bus.plug(0, Buses.DISK, 1, 0);
            check.due("run(" + n + ")", bus.run(n), -1);
            check.due("makes no frame", bus.view(0), Buses.NOTHING);
            check.due("and no transaction", bus.transactions(), 0);
        }
        PluggedBus bus = Buses.withKeys(1, 1);
        for (int n = 1; n <= 40; n++) {
            check.due("run(" + n + ")", bus.run(n), n);
        }
    }

    private static void enumeratesTenTransactionsAFrame() {
        PluggedBus bus = new PluggedBus();
        bus.plug(0, Buses.DISK, 8, 0);
        bus.plug(1, Buses.DISK, 8, 0);
        check.due("100 units", bus.run(1), 10);
        check.due("the smaller port first", bus.view(0), Buses.READY);
        check.due("then the other", bus.view(1), Buses.GOING);
        bus.write(0, 0, 4, 1);
        bus.write(0, 0, 4, 1);
        check.due("20 units, and 80 for the disk", bus.run(1), 2 + 10);
        check.due("the rest of the second order", bus.run(1), 2);
    }

    private static void spendsOnPollsFirst() {
        PluggedBus bus = Buses.withKeys(1, 60);
        bus.plug(1, Buses.DISK, 8, 0);
        check.due("a poll, 40 units for enumeration", bus.run(1), 1 + 4);
        check.due("GOING", bus.view(1), Buses.GOING);
        check.due("a poll, the rest", bus.run(1), 1 + 2);
        bus.write(1, 0, 4, 1);
        check.due("a poll, 40 units for the disk", bus.run(1), 1 + 5);
        check.due("all but the status", bus.order(0), 0);
        check.due("a poll, the status", bus.run(1), 1 + 1);
        check.due("DONE", bus.order(0), 1);
    }

    /** Costs 4 and 56 .. 60 leave 40 .. 36 units; enumeration takes what it can. */
    private static void usesTheLastUnits() {
        int[] disk = {5, 4, 4, 4, 4};
        int[] enumeration = {4, 3, 3, 3, 3};
        for (int i = 0; i < 5; i++) {
            PluggedBus bus = Buses.withHubAnd(Buses.KEYS, 1, 56 + i);
            bus.plug(1, Buses.DISK, 8, 0);
            check.due("enumeration beside cost " + (60 + i), bus.run(1), 2 + enumeration[i]);
            bus.run(1);
            bus.write(1, 0, 4, 1);
            check.due("a disk beside cost " + (60 + i), bus.run(1), 2 + disk[i]);
        }
    }

    private static void pollsByTheFramesNumber() {
        for (int interval = 1; interval <= 8; interval++) {
            PluggedBus bus = Buses.withKeys(interval, 1);
            for (int frame = 1; frame <= 24; frame++) {
                check.due("interval " + interval + ", frame " + frame, bus.run(1), frame % interval == 0 ? 1 : 0);
            }
        }
        PluggedBus bus = new PluggedBus();
        bus.run(3);
        bus.plug(0, Buses.KEYS, 4, 1);
        check.due("the frame's number does not begin with the device", bus.run(2), 6 + 1);
        check.due("a hub is polled in each", Buses.withHub().run(9), 9);
    }

    private static void pollsInTheOrderOfPorts() {
        PluggedBus bus = Buses.withHub();
        bus.plug(3, Buses.KEYS, 1, 1);
        bus.run(1);
        bus.plug(2, Buses.KEYS, 1, 1);
        bus.run(1);
        bus.plug(1, Buses.KEYS, 2, 1);
        bus.run(1);
        for (int port = 3; port >= 1; port--) {
            bus.press(port, port);
        }
        check.due("a frame for all", bus.run(1), 4);
        check.due("port 1", bus.key(2), 1 * 256 + 1);
        check.due("port 2", bus.key(1), 2 * 256 + 2);
        check.due("port 3", bus.key(0), 3 * 256 + 3);
    }

    private static void servesDisksInTurn() {
        PluggedBus bus = Buses.withTwoDisks();
        bus.write(0, 0, 4, 10);
        bus.write(0, 4, 4, 20);
        bus.write(1, 0, 4, 30);
        check.due("a full frame", bus.run(1), 12);
        check.due("port 0's order in hand", bus.order(0), 1);
        check.due("port 0's next", bus.order(1), 0);
        check.due("port 1's", bus.order(2), 1);
        check.due("not begun", bus.image(0, 4), 0);
        check.due("the rest", bus.run(1), 6);
    }

    /** A hub and KEYS leave 46 units: five transactions for the disks in ports 1 and 3. */
    private static void remembersWhichDiskWasServedLast() {
        PluggedBus bus = Buses.withHubAnd(Buses.KEYS, 1, 50);
        bus.plug(1, Buses.DISK, 8, 0);
        bus.run(2);
        bus.plug(3, Buses.DISK, 8, 0);
        bus.run(2);
        check.due("port 3 is ready", bus.view(3), Buses.READY);
        bus.write(3, 0, 1, 1);
        bus.write(1, 0, 1, 1);
        check.due("1, 3, 1, 3, 1", bus.run(1), 2 + 5);
        check.due("port 3 is a transaction behind", bus.order(0), 0);
        check.due("port 1 was first", bus.order(1), 1);
        bus.run(1);
        bus.write(1, 0, 1, 2);
        bus.run(1);
        bus.write(1, 0, 1, 3);
        bus.write(3, 0, 1, 3);
        check.due("3, 1, 3, 1, 3", bus.run(1), 2 + 5);
        check.due("port 1 is a transaction behind", bus.order(3), 0);
        check.due("port 3 was first", bus.order(4), 1);
    }

    private static void hearsOfChangesWhenToldOnly() {
        PluggedBus bus = Buses.withHub();
        bus.plug(2, Buses.DISK, 1, 0);
        bus.plug(3, Buses.DISK, 1, 0);
        Buses.spoilRow(bus, 1, 2, Buses.DATA);
        check.due("two lost polls", bus.run(2), 2);
        bus.unplug(3);
        check.due("the packet was made at the first poll", bus.run(1), 1 + 9);
        check.due("port 2", bus.view(2), Buses.READY);
        check.due("port 3 was said to be full, but nothing answers", bus.view(3), Buses.FAULTS);
        check.due("then it is said to be empty", bus.run(1), 1);
        check.due("port 3", bus.view(3), Buses.NOTHING);
        check.due("port 2 stays", bus.view(2), Buses.READY);
    }

    private static void hearsTwiceWhatIsSentTwiceOnce() {
        PluggedBus bus = Buses.withHub();
        bus.plug(2, Buses.DISK, 1, 0);
        bus.spoil(1, Buses.HANDSHAKE);
        check.due("told, enumerated", bus.run(1), 7);
        bus.unplug(2);
        check.due("the hub sends what the host has already", bus.run(1), 1);
        check.due("so port 2 is still seen", bus.view(2), Buses.READY);
        check.due("the next packet", bus.run(1), 1);
        check.due("tells of the unplug", bus.view(2), Buses.NOTHING);
    }

    /**
     * Port 0 fails, so that the hub's first "configure" is the frame's last transaction; its handshake is lost. The
     * second one marks only what is full then, so that the hub has nothing to hold when a handshake is lost again.
     */
    private static void configuresAHubAnew() {
        PluggedBus bus = new PluggedBus();
        bus.plug(0, Buses.DISK, 1, 0);
        bus.plug(1, Buses.HUB, 0, 0);
        bus.plug(4, Buses.DISK, 1, 0);
        Buses.spoilRow(bus, 1, 3, Buses.TOKEN);
        Buses.spoilRow(bus, 7, 2, Buses.TOKEN);
        bus.spoil(10, Buses.HANDSHAKE);
        check.due("a full frame", bus.run(1), 10);
        check.due("port 0", bus.view(0), Buses.FAULTS);
        check.due("the hub", bus.view(1), Buses.GOING);
        bus.unplug(4);
        check.due("configured again", bus.run(1), 2);
        bus.spoil(1, Buses.HANDSHAKE);
        check.due("nothing to tell", bus.run(1), 1);
        bus.plug(4, Buses.DISK, 1, 0);
        check.due("told at once", bus.run(1), 1 + 6);
        check.due("port 4", bus.view(4), Buses.READY);
    }

    /**
     * A disk that is enumerated a second time begins anew. The frame before that has 12 transactions for it: 5 + count
     * for the write, the others for the read, so that the reset finds it busy, with its toggles turned, or holding a
     * block.
     */
    private static void resetsADiskInTheMidstOfItsWork() {
        for (int count = 2; count <= 4; count++) {
            PluggedBus bus = Buses.withHubThatWillTellAgainOf(Buses.DISK, 4, 3);
            bus.write(2, 0, count, 60);
            bus.read(2, 0, 4);
            bus.spoil(1, Buses.TOKEN);
            bus.spoil(1 + 12, Buses.HANDSHAKE);
            check.due("a lost poll, a full frame", bus.run(1), 1 + 12);
            check.due("the write", bus.order(0), 1);
            check.due("the second change is told, enumeration", bus.run(1), 7);
            check.due("the read", bus.order(1), 3);
            check.due("what it took", bus.got(1, 0), count == 2 ? 60 : 0);
            check.due("blocks stay", bus.image(2, 1), 61);
            bus.read(2, 1, 2);
            check.due("a poll, command, delay, blocks, status", bus.run(1), 1 + 1 + 3 + 2 + 1);
            check.due("the first", bus.got(2, 0), 61);
            check.due("the second", bus.got(2, 1), count == 2 ? 0 : 62);
        }
    }

    private static void countsFaultsOfAnEnumerationAlone() {
        PluggedBus bus = new PluggedBus();
        bus.plug(0, Buses.DISK, 1, 0);
        bus.plug(1, Buses.DISK, 1, 0);
        Buses.spoilRow(bus, 9, 2, Buses.TOKEN);
        check.due("port 1 has two faults in this frame", bus.run(1), 10);
        bus.unplug(1);
        bus.plug(1, Buses.DISK, 1, 0);
        Buses.spoilRow(bus, 1, 2, Buses.TOKEN);
        check.due("and two in the next, of a new enumeration", bus.run(1), 8);
        check.due("port 1", bus.view(1), Buses.READY);
        bus.write(1, 0, 1, 1);
        Buses.spoilRow(bus, 1, 2, Buses.TOKEN);
        check.due("and two of its order", bus.run(1), 5);
        check.due("DONE", bus.order(0), 1);
    }
}
