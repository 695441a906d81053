/** Promise 7: write. */
final class WriteTest {
    private static final Check check = new Check();

    public static void main(String[] args) {
        refusesOtherNumbers();
        needsADiskThatIsReady();
        writesOneAfterTheOther();
        wraps();
        takesAnyValue();
        endsWithRange();
        waitsForTheDelay();
        writesBlockByBlock();
        isOneOfSixteen();
        believesTheHostsView();
        check.end();
    }

    /** "otherwise as read": -1 when a number is not as said. */
    private static void refusesOtherNumbers() {
        PluggedBus bus = Buses.withDisk(8, 0);
        int[][] wrong = {{-1, 0, 1}, {6, 0, 1}, {Integer.MIN_VALUE, 0, 1}, {0, -1, 1}, {0, 8, 1},
            {0, Integer.MAX_VALUE, 1}, {0, 0, 0}, {0, 0, 5}, {0, 0, Integer.MIN_VALUE}};
        for (int[] w : wrong) {
            check.due("write(" + w[0] + ", " + w[1] + ", " + w[2] + ", 1)", bus.write(w[0], w[1], w[2], 1), -1);
        }
        check.due("none of them is an order", bus.order(0), -1);
        check.due("none of them is carried out", bus.run(1), 0);
        check.due("write(0, 7, 1, 1)", bus.write(0, 7, 1, 1), 0);
    }

    /** "otherwise as read": -1 when the host does not see the port READY as a DISK. */
    private static void needsADiskThatIsReady() {
        check.due("nothing", new PluggedBus().write(0, 0, 1, 1), -1);
        check.due("KEYS", Buses.withKeys(1, 1).write(0, 0, 1, 1), -1);
        check.due("HUB", Buses.withHub().write(0, 0, 1, 1), -1);
        PluggedBus bus = Buses.withDisk(8, 0);
        bus.unplug(0);
        bus.run(1);
        check.due("gone", bus.write(0, 0, 1, 1), -1);
        bus = new PluggedBus();
        bus.plug(0, Buses.DISK, 8, 0);
        bus.plug(1, Buses.DISK, 8, 0);
        check.due("not heard of yet", bus.write(0, 0, 1, 1), -1);
        bus.run(1);
        check.due("GOING", bus.write(1, 0, 1, 1), -1);
        Buses.spoilRow(bus, 1, 3, Buses.TOKEN);
        bus.run(1);
        check.due("failed", bus.write(1, 0, 1, 1), -1);
        check.due("READY", bus.write(0, 0, 1, 1), 0);
    }

    /** "otherwise as read": also those that end with RANGE are of the 16. */
    private static void isOneOfSixteen() {
        PluggedBus bus = Buses.withDisk(2, 0);
        for (int k = 0; k < 16; k++) {
            check.due("order " + k, bus.write(0, 1, 1 + k % 2, k), k);
            check.due("its state", bus.order(k), k % 2 == 0 ? 0 : 4);
        }
        check.due("a 17th", bus.write(0, 0, 1, 1), -1);
        check.due("8 of three transactions", bus.run(3), 24);
        check.due("the last one's value", bus.image(0, 1), 14);
        check.due("a 17th still", bus.write(0, 0, 1, 1), -1);
    }

    private static void believesTheHostsView() {
        PluggedBus bus = Buses.withDisk(2, 0);
        bus.unplug(0);
        bus.plug(0, Buses.DISK, 8, 0);
        check.due("the old disk's blocks", bus.write(0, 0, 3, 1), 0);
        check.due("RANGE", bus.order(0), 4);
        check.due("for the old disk", bus.write(0, 0, 2, 1), 1);
        check.due("enumeration of the new one", bus.run(1), 6);
        check.due("GONE", bus.order(1), 3);
        check.due("nothing was written", bus.image(0, 0), 0);
    }

    /** "An order to write value, value + 1, .. to count blocks". */
    private static void writesOneAfterTheOther() {
        PluggedBus bus = Buses.withDisk(8, 0);
        check.due("write(0, 2, 4, 100)", bus.write(0, 2, 4, 100), 0);
        check.due("not yet", bus.image(0, 2), 0);
        check.due("a command, four blocks, a status", bus.run(1), 6);
        int[] content = {0, 0, 100, 101, 102, 103, 0, 0};
        for (int k = 0; k < 8; k++) {
            check.due("image(0, " + k + ")", bus.image(0, k), content[k]);
        }
        check.due("order(0)", bus.order(0), 1);
    }

    /** "(which wraps)". */
    private static void wraps() {
        PluggedBus bus = Buses.withDisk(4, 0);
        bus.write(0, 0, 4, Integer.MAX_VALUE - 1);
        bus.run(1);
        check.due("image(0, 1)", bus.image(0, 1), Integer.MAX_VALUE);
        check.due("image(0, 2)", bus.image(0, 2), Integer.MIN_VALUE);
        check.due("image(0, 3)", bus.image(0, 3), Integer.MIN_VALUE + 1);
        bus.read(0, 0, 4);
        bus.run(1);
        check.due("got(1, 2)", bus.got(1, 2), Integer.MIN_VALUE);
        bus.write(0, 0, 4, -2);
        bus.run(1);
        for (int k = 0; k < 4; k++) {
            check.due("image(0, " + k + ") from -2 on", bus.image(0, k), k - 2);
        }
    }

    private static void takesAnyValue() {
        int[] values = {0, -1, 64, 127, Integer.MIN_VALUE, Integer.MAX_VALUE};
        PluggedBus bus = Buses.withDisk(1, 0);
        for (int value : values) {
            bus.write(0, 0, 1, value);
            bus.run(1);
            check.due("value " + value, bus.image(0, 0), value);
        }
    }

    /** "otherwise as read": RANGE. */
    private static void endsWithRange() {
        PluggedBus bus = Buses.withDisk(3, 0);
        check.due("write(0, 2, 2, 9)", bus.write(0, 2, 2, 9), 0);
        check.due("RANGE", bus.order(0), 4);
        check.due("not carried out", bus.run(1), 0);
        check.due("nor in part", bus.image(0, 2), 0);
        check.due("write(0, 0, 3, 9)", bus.write(0, 0, 3, 9), 1);
        bus.run(1);
        check.due("all of the disk", bus.image(0, 2), 11);
    }

    private static void waitsForTheDelay() {
        for (int delay = 0; delay <= 3; delay++) {
            PluggedBus bus = Buses.withDisk(4, delay);
            bus.write(0, 0, 4, 1);
            check.due("delay " + delay, bus.run(2), 1 + delay + 4 + 1);
            check.due("order(0)", bus.order(0), 1);
        }
    }

    /** A frame has 12 transactions of disks: here the second order stops behind its second block. */
    private static void writesBlockByBlock() {
        PluggedBus bus = Buses.withDisk(8, 3);
        bus.write(0, 0, 1, 1);
        bus.write(0, 4, 4, 51);
        check.due("a full frame", bus.run(1), 12);
        check.due("its second block is there", bus.image(0, 5), 52);
        check.due("its third is not", bus.image(0, 6), 0);
        bus.unplug(0);
        bus.run(1);
        check.due("GONE", bus.order(1), 3);
    }
}
