/** Promise 13: image. */
final class ImageTest {
    private static final Check check = new Check();

    public static void main(String[] args) {
        isZeroWhereThereIsNone();
        showsTheDisksOwnBlocks();
        showsNothingOfALargerDiskThatWasThere();
        needsNoHost();
        check.end();
    }

    /** "0 when there is none." */
    private static void isZeroWhereThereIsNone() {
        PluggedBus bus = Buses.withDisk(2, 0);
        bus.write(0, 0, 2, 5);
        bus.run(1);
        int[] noPorts = {-1, 1, 2, 5, 6, Integer.MIN_VALUE, Integer.MAX_VALUE};
        for (int port : noPorts) {
            check.due("image(" + port + ", 0)", bus.image(port, 0), 0);
        }
        int[] noBlocks = {-1, 2, 7, 8, Integer.MIN_VALUE, Integer.MAX_VALUE};
        for (int k : noBlocks) {
            check.due("image(0, " + k + ")", bus.image(0, k), 0);
        }
        check.due("image(0, 1)", bus.image(0, 1), 6);
        bus.unplug(0);
        check.due("unplugged", bus.image(0, 1), 0);
        bus.plug(0, Buses.KEYS, 1, 1);
        check.due("KEYS", bus.image(0, 1), 0);
    }

    private static void showsNothingOfALargerDiskThatWasThere() {
        PluggedBus bus = Buses.withDisk(8, 0);
        bus.write(0, 0, 4, 5);
        bus.write(0, 4, 4, 9);
        bus.run(1);
        bus.unplug(0);
        for (int blocks = 1; blocks <= 8; blocks++) {
            bus.plug(0, Buses.DISK, blocks, 0);
            for (int k = -1; k <= 8; k++) {
                check.due("image(0, " + k + ") of " + blocks, bus.image(0, k), 0);
            }
            bus.unplug(0);
        }
    }

    /** Also before the host knows of the disk, and in a port that failed. */
    private static void needsNoHost() {
        PluggedBus bus = Buses.withDisk(2, 0);
        bus.write(0, 0, 2, 5);
        bus.run(1);
        bus.read(0, 0, 1);
        Buses.spoilRow(bus, 1, 3, Buses.TOKEN);
        bus.run(1);
        check.due("FAULTS", bus.view(0), Buses.FAULTS);
        check.due("image(0, 0)", bus.image(0, 0), 5);
        check.due("image(0, 1)", bus.image(0, 1), 6);
        check.due("image(0, 2)", bus.image(0, 2), 0);
    }

    /** The disk has its blocks whether or not the host still sees it. */
    private static void showsTheDisksOwnBlocks() {
        PluggedBus bus = Buses.withHubAnd(Buses.DISK, 8, 0);
        bus.write(2, 4, 4, 44);
        bus.run(1);
        Buses.spoilRow(bus, 1, 3, Buses.TOKEN);
        bus.run(3);
        check.due("the hub failed", bus.view(0), Buses.FAULTS);
        check.due("the port is not seen", bus.view(2), Buses.NOTHING);
        for (int k = 4; k < 8; k++) {
            check.due("image(2, " + k + ")", bus.image(2, k), 40 + k);
        }
        PluggedBus two = Buses.withTwoDisks();
        two.write(0, 0, 1, 1);
        two.write(1, 0, 1, 2);
        two.run(1);
        check.due("image(0, 0)", two.image(0, 0), 1);
        check.due("image(1, 0)", two.image(1, 0), 2);
    }
}
