/** Promise 6: read. */
final class ReadTest {
    private static final Check check = new Check();

    public static void main(String[] args) {
        refusesOtherNumbers();
        needsADiskThatIsReady();
        believesTheHostsView();
        endsWithRange();
        isOneOfSixteen();
        readsInOrder();
        readsWhatIsThereWhenThePacketIsMade();
        waitsForTheDelay();
        needsAllItsBlocks();
        refusesPortsThatAreNotThere();
        check.end();
    }

    /** "-1 when a number is not as said". */
    private static void refusesOtherNumbers() {
        PluggedBus bus = Buses.withDisk(8, 0);
        int[][] wrong = {{-1, 0, 1}, {6, 0, 1}, {Integer.MIN_VALUE, 0, 1}, {Integer.MAX_VALUE, 0, 1}, {0, -1, 1},
            {0, 8, 1}, {0, Integer.MAX_VALUE, 4}, {0, Integer.MIN_VALUE, 1}, {0, 0, 0}, {0, 0, 5}, {0, 0, -1},
            {0, 1, Integer.MAX_VALUE}};
        for (int[] w : wrong) {
            check.due("read(" + w[0] + ", " + w[1] + ", " + w[2] + ")", bus.read(w[0], w[1], w[2]), -1);
        }
        check.due("none of them is an order", bus.order(0), -1);
        check.due("read(0, 0, 4)", bus.read(0, 0, 4), 0);
        check.due("read(0, 7, 1)", bus.read(0, 7, 1), 1);
        check.due("order(1)", bus.order(1), 0);
    }

    /** "-1 when .. the host does not see the port READY as a DISK." */
    private static void needsADiskThatIsReady() {
        PluggedBus bus = new PluggedBus();
        bus.plug(0, Buses.DISK, 8, 0);
        check.due("not enumerated yet", bus.read(0, 0, 1), -1);
        check.due("empty", bus.read(1, 0, 1), -1);
        bus.plug(1, Buses.DISK, 8, 0);
        bus.run(1);
        check.due("GOING", bus.read(1, 0, 1), -1);
        check.due("READY", bus.read(0, 0, 1), 0);
        check.due("KEYS", Buses.withKeys(1, 1).read(0, 0, 1), -1);
        check.due("HUB", Buses.withHub().read(0, 0, 1), -1);
        bus = Buses.withDisk(8, 0);
        bus.unplug(0);
        bus.plug(0, Buses.DISK, 8, 0);
        Buses.spoilRow(bus, 1, 3, Buses.TOKEN);
        bus.run(1);
        check.due("failed", bus.read(0, 0, 1), -1);
    }

    /** "among those that the host knows of (from describe)": also of a DISK that is there no more. */
    private static void believesTheHostsView() {
        PluggedBus bus = Buses.withDisk(2, 0);
        bus.unplug(0);
        check.due("the host still sees a disk", bus.read(0, 0, 1), 0);
        bus.plug(0, Buses.DISK, 8, 0);
        check.due("with the blocks of the old one", bus.read(0, 2, 1), 1);
        check.due("so RANGE", bus.order(1), 4);
        bus.run(1);
        check.due("the old disk's order", bus.order(0), 3);
        check.due("the new one's blocks", bus.read(0, 2, 1), 2);
        check.due("are enough", bus.order(2), 0);
    }

    /** "the order (one of the 16, too) ends at once with RANGE." */
    private static void endsWithRange() {
        for (int blocks = 1; blocks <= 8; blocks++) {
            PluggedBus bus = Buses.withDisk(blocks, 0);
            check.due("the last block of " + blocks, bus.read(0, blocks - 1, 1), 0);
            check.due("is in range", bus.order(0), 0);
            check.due("and one more", bus.read(0, blocks - 1, 2), 1);
            check.due("is not", bus.order(1), 4);
            check.due("only the first one is carried out", bus.run(2), 3);
            check.due("RANGE stays", bus.order(1), 4);
        }
    }

    /** "If not all these blocks are among those that the host knows of (from describe)". */
    private static void needsAllItsBlocks() {
        for (int blocks = 1; blocks <= 8; blocks++) {
            for (int block = 0; block < 8; block++) {
                PluggedBus bus = Buses.withDisk(blocks, 0);
                for (int count = 1; count <= 4; count++) {
                    check.due("read(0, " + block + ", " + count + ")", bus.read(0, block, count), count - 1);
                    check.due("of " + blocks, bus.order(count - 1), block + count <= blocks ? 0 : 4);
                }
            }
        }
    }

    private static void refusesPortsThatAreNotThere() {
        PluggedBus bus = Buses.withDisk(8, 0);
        for (int port = 1; port < 6; port++) {
            check.due("read(" + port + ", 0, 1)", bus.read(port, 0, 1), -1);
            check.due("write(" + port + ", 0, 1, 1)", bus.write(port, 0, 1, 1), -1);
        }
        check.due("none of them is an order", bus.order(0), -1);
    }

    /** "-1 when .. there were 16 orders". */
    private static void isOneOfSixteen() {
        PluggedBus bus = Buses.withDisk(1, 0);
        for (int k = 0; k < 16; k++) {
            check.due("order " + k, k % 2 == 0 ? bus.read(0, 0, 2) : bus.read(0, 0, 1), k);
        }
        check.due("a 17th read", bus.read(0, 0, 1), -1);
        check.due("a 17th write", bus.write(0, 0, 1, 1), -1);
        bus.run(2);
        check.due("all carried out, 3 each", bus.transactions(), 6 + 8 * 3);
        check.due("a 17th read when all are over", bus.read(0, 0, 1), -1);
        check.due("the 16th", bus.order(15), 1);
        check.due("no 17th", bus.order(16), -1);
    }

    private static void readsInOrder() {
        PluggedBus bus = Buses.withDisk(8, 0);
        bus.write(0, 0, 4, 40);
        bus.write(0, 4, 4, 44);
        bus.run(1);
        check.due("read(0, 3, 4)", bus.read(0, 3, 4), 2);
        check.due("a command, four blocks, a status", bus.run(1), 6);
        for (int i = 0; i < 4; i++) {
            check.due("got(2, " + i + ")", bus.got(2, i), 43 + i);
        }
    }

    /** A block that a lost handshake makes the disk send twice is the number that it was made of. */
    private static void readsWhatIsThereWhenThePacketIsMade() {
        PluggedBus bus = Buses.withDisk(2, 0);
        bus.write(0, 0, 2, 5);
        bus.read(0, 0, 2);
        bus.write(0, 0, 2, 8);
        bus.read(0, 0, 2);
        bus.spoil(6, Buses.DATA);
        bus.run(2);
        check.due("the first read's first", bus.got(1, 0), 5);
        check.due("the first read's second", bus.got(1, 1), 6);
        check.due("the second read's first", bus.got(3, 0), 8);
        check.due("the second read's second", bus.got(3, 1), 9);
    }

    private static void waitsForTheDelay() {
        for (int delay = 0; delay <= 3; delay++) {
            PluggedBus bus = Buses.withDisk(4, delay);
            bus.read(0, 0, 4);
            check.due("delay " + delay, bus.run(2), 1 + delay + 4 + 1);
            bus.read(0, 1, 1);
            check.due("again with delay " + delay, bus.run(2), 1 + delay + 1 + 1);
            check.due("order(1)", bus.order(1), 1);
        }
    }
}
