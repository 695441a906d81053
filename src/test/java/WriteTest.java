/** Promise 7: write. */
final class WriteTest {
    private static final Check check = new Check();

    public static void main(String[] args) {
        refusesOtherNumbers();
        needsADiskThatIsReady();
        writesOneAfterTheOther();
        wraps();
        takesAnyValue();
        endsWithRange();
        waitsForTheDelay();
        writesBlockByBlock();
        check.end();
    }

    private static void refusesOtherNumbers() {
        PluggedBus bus = Buses.withDisk(8, 0);
        int[][] wrong = {{-1, 0, 1}, {6, 0, 1}, {Integer.MIN_VALUE, 0, 1}, {0, -1, 1}, {0, 8, 1},
            {0, Integer.MAX_VALUE, 1}, {0, 0, 0}, {0, 0, 5}, {0, 0, Integer.MIN_VALUE}};
        for (int[] w : wrong) {
            check.due("write(" + w[0] + ", " + w[1] + ", " + w[2] + ", 1)", bus.write(w[0], w[1], w[2], 1), -1);
        }
        check.due("none of them is an order", bus.order(0), -1);
        check.due("none of them is carried out", bus.run(1), 0);
        check.due("write(0, 7, 1, 1)", bus.write(0, 7, 1, 1), 0);
    }

    private static void needsADiskThatIsReady() {
        check.due("nothing", new PluggedBus().write(0, 0, 1, 1), -1);
        check.due("KEYS", Buses.withKeys(1, 1).write(0, 0, 1, 1), -1);
        check.due("HUB", Buses.withHub().write(0, 0, 1, 1), -1);
        PluggedBus bus = Buses.withDisk(8, 0);
        bus.unplug(0);
        bus.run(1);
        check.due("gone", bus.write(0, 0, 1, 1), -1);
    }

    private static void writesOneAfterTheOther() {
        PluggedBus bus = Buses.withDisk(8, 0);
        check.due("write(0, 2, 4, 100)", bus.write(0, 2, 4, 100), 0);
        check.due("not yet", bus.image(0, 2), 0);
        check.due("a command, four blocks, a status", bus.run(1), 6);
        int[] content = {0, 0, 100, 101, 102, 103, 0, 0};
        for (int k = 0; k < 8; k++) {
            check.due("image(0, " + k + ")", bus.image(0, k), content[k]);
        }
        check.due("order(0)", bus.order(0), 1);
    }

    private static void wraps() {
        PluggedBus bus = Buses.withDisk(4, 0);
        bus.write(0, 0, 4, Integer.MAX_VALUE - 1);
        bus.run(1);
        check.due("image(0, 1)", bus.image(0, 1), Integer.MAX_VALUE);
        check.due("image(0, 2)", bus.image(0, 2), Integer.MIN_VALUE);
        check.due("image(0, 3)", bus.image(0, 3), Integer.MIN_VALUE + 1);
    }

    private static void takesAnyValue() {
        int[] values = {0, -1, 64, 127, Integer.MIN_VALUE, Integer.MAX_VALUE};
        PluggedBus bus = Buses.withDisk(1, 0);
        for (int value : values) {
            bus.write(0, 0, 1, value);
            bus.run(1);
            check.due("value " + value, bus.image(0, 0), value);
        }
    }

    private static void endsWithRange() {
        PluggedBus bus = Buses.withDisk(3, 0);
        check.due("write(0, 2, 2, 9)", bus.write(0, 2, 2, 9), 0);
        check.due("RANGE", bus.order(0), 4);
        check.due("not carried out", bus.run(1), 0);
        check.due("nor in part", bus.image(0, 2), 0);
        check.due("write(0, 0, 3, 9)", bus.write(0, 0, 3, 9), 1);
        bus.run(1);
        check.due("all of the disk", bus.image(0, 2), 11);
    }

    private static void waitsForTheDelay() {
        for (int delay = 0; delay <= 3; delay++) {
            PluggedBus bus = Buses.withDisk(4, delay);
            bus.write(0, 0, 4, 1);
            check.due("delay " + delay, bus.run(2), 1 + delay + 4 + 1);
            check.due("order(0)", bus.order(0), 1);
        }
    }

    /** A frame has 12 transactions of disks: here the second order stops behind its second block. */
    private static void writesBlockByBlock() {
        PluggedBus bus = Buses.withDisk(8, 3);
        bus.write(0, 0, 1, 1);
        bus.write(0, 4, 4, 51);
        check.due("a full frame", bus.run(1), 12);
        check.due("its second block is there", bus.image(0, 5), 52);
        check.due("its third is not", bus.image(0, 6), 0);
        bus.unplug(0);
        bus.run(1);
        check.due("GONE", bus.order(1), 3);
    }
}
