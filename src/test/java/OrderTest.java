/** Promise 11: order. */
final class OrderTest {
    private static final Check check = new Check();

    public static void main(String[] args) {
        refusesOtherNumbers();
        tellsOfEachEnd();
        endsTheOrderInHandWithFaults();
        isGoneWithTheHub();
        isOverOnce();
        check.end();
    }

    /** "-1 when there is none." */
    private static void refusesOtherNumbers() {
        PluggedBus bus = Buses.withDisk(1, 0);
        bus.read(0, 0, 1);
        int[] wrong = {-1, 1, 15, 16, Integer.MIN_VALUE, Integer.MAX_VALUE};
        for (int k : wrong) {
            check.due("order(" + k + ")", bus.order(k), -1);
        }
        check.due("order(0)", bus.order(0), 0);
    }

    /** "0 not over, 1 DONE, .. 3 GONE, 4 RANGE". */
    private static void tellsOfEachEnd() {
        PluggedBus bus = Buses.withDisk(2, 0);
        bus.write(0, 0, 2, 1);
        bus.read(0, 1, 2);
        check.due("not over", bus.order(0), 0);
        check.due("RANGE at once", bus.order(1), 4);
        bus.run(1);
        check.due("DONE", bus.order(0), 1);
        bus.read(0, 0, 1);
        bus.unplug(0);
        check.due("the host does not know yet", bus.order(2), 0);
        bus.run(1);
        check.due("GONE", bus.order(2), 3);
    }

    /** "2 FAULTS". */
    private static void endsTheOrderInHandWithFaults() {
        PluggedBus bus = Buses.withTwoDisks();
        bus.read(0, 0, 1);
        bus.read(1, 0, 1);
        bus.read(0, 0, 2);
        bus.write(0, 0, 1, 1);
        bus.read(0, 7, 2);
        bus.spoil(1, Buses.TOKEN);
        bus.spoil(3, Buses.TOKEN);
        bus.spoil(5, Buses.DATA);
        check.due("three of each", bus.run(1), 3 + 3);
        int[] due = {2, 1, 3, 3, 4};
        for (int k = 0; k < 5; k++) {
            check.due("order(" + k + ")", bus.order(k), due[k]);
        }
        check.due("port 0", bus.view(0), Buses.FAULTS);
        check.due("port 1", bus.view(1), Buses.READY);
        check.due("it is closed for good", bus.run(3), 0);
    }

    private static void isGoneWithTheHub() {
        PluggedBus bus = Buses.withHubAnd(Buses.DISK, 1, 0);
        bus.plug(1, Buses.DISK, 1, 0);
        bus.run(1);
        bus.read(2, 0, 1);
        bus.read(1, 0, 1);
        bus.unplug(0);
        check.due("only the other disk's", bus.run(1), 3);
        check.due("the hub's disk", bus.order(0), 3);
        check.due("the other disk", bus.order(1), 1);
    }

    private static void isOverOnce() {
        PluggedBus bus = Buses.withDisk(1, 0);
        bus.read(0, 0, 1);
        bus.run(1);
        bus.read(0, 0, 2);
        bus.unplug(0);
        bus.run(1);
        check.due("DONE stays", bus.order(0), 1);
        check.due("RANGE stays", bus.order(1), 4);
    }
}
