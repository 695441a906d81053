/** Promise 12: got. */
final class GotTest {
    private static final Check check = new Check();

    public static void main(String[] args) {
        refusesOtherOrders();
        tellsWhatWasTaken();
        tellsWhatWasTakenOfAnOrderThatFailed();
        isZeroForAWrite();
        tellsWhatWasTakenSoFar();
        tellsWhatWasTakenOfAnOrderThatIsGone();
        tellsOfTheNumbersNotOfTheStatus();
        check.end();
    }

    /** "-1 when there is no such order." */
    private static void refusesOtherOrders() {
        PluggedBus bus = Buses.withDisk(1, 0);
        bus.read(0, 0, 1);
        int[] wrong = {-1, 1, 16, Integer.MIN_VALUE, Integer.MAX_VALUE};
        for (int k : wrong) {
            check.due("got(" + k + ", 0)", bus.got(k, 0), -1);
        }
        check.due("got(0, 0)", bus.got(0, 0), 0);
    }

    /** "The i-th number (from 0) that the host took"; "0 .. for another .. i". */
    private static void tellsWhatWasTaken() {
        PluggedBus bus = Buses.withDisk(4, 0);
        bus.write(0, 0, 4, 21);
        bus.run(1);
        bus.read(0, 0, 4);
        bus.read(0, 2, 2);
        bus.run(1);
        for (int i = 0; i < 4; i++) {
            check.due("got(1, " + i + ")", bus.got(1, i), 21 + i);
        }
        check.due("got(2, 0)", bus.got(2, 0), 23);
        check.due("got(2, 1)", bus.got(2, 1), 24);
        int[] others = {-1, 2, 3, 4, Integer.MIN_VALUE, Integer.MAX_VALUE};
        for (int i : others) {
            check.due("got(2, " + i + ")", bus.got(2, i), 0);
        }
        check.due("got(1, 4)", bus.got(1, 4), 0);
    }

    /** "(however that ended)". */
    private static void tellsWhatWasTakenOfAnOrderThatFailed() {
        PluggedBus bus = Buses.withDisk(4, 0);
        bus.write(0, 0, 4, 21);
        bus.run(1);
        bus.read(0, 0, 4);
        Buses.spoilRow(bus, 4, 3, Buses.DATA);
        check.due("a command, two blocks, three faults", bus.run(1), 6);
        check.due("FAULTS", bus.order(1), 2);
        check.due("got(1, 0)", bus.got(1, 0), 21);
        check.due("got(1, 1)", bus.got(1, 1), 22);
        check.due("got(1, 2)", bus.got(1, 2), 0);
        bus = Buses.withDisk(4, 3);
        bus.write(0, 0, 4, 21);
        bus.read(0, 0, 4);
        check.due("a full frame", bus.run(1), 12);
        check.due("nothing yet", bus.got(1, 0), 0);
        bus.unplug(0);
        bus.run(1);
        check.due("GONE", bus.order(1), 3);
        check.due("nor then", bus.got(1, 0), 0);
    }

    /** KEYS leave 40 units: a command and four blocks, or with a delay fewer. */
    private static PluggedBus withDiskThatHasReadThreeOfFour() {
        PluggedBus bus = Buses.withKeys(1, 60);
        bus.plug(1, Buses.DISK, 4, 1);
        bus.run(2);
        bus.write(1, 0, 4, 21);
        bus.run(2);
        bus.read(1, 0, 4);
        check.due("a poll, a command, a refusal, three blocks", bus.run(1), 1 + 5);
        return bus;
    }

    /** "The i-th number (from 0) that the host took for a read order"; "0 when it took not so many". */
    private static void tellsWhatWasTakenSoFar() {
        PluggedBus bus = withDiskThatHasReadThreeOfFour();
        check.due("not over", bus.order(1), 0);
        for (int i = 0; i < 4; i++) {
            check.due("got(1, " + i + ")", bus.got(1, i), i < 3 ? 21 + i : 0);
        }
        bus.run(1);
        check.due("DONE", bus.order(1), 1);
        check.due("got(1, 3)", bus.got(1, 3), 24);
    }

    /** "(however that ended)". */
    private static void tellsWhatWasTakenOfAnOrderThatIsGone() {
        PluggedBus bus = withDiskThatHasReadThreeOfFour();
        bus.unplug(1);
        bus.run(1);
        check.due("GONE", bus.order(1), 3);
        for (int i = 0; i < 4; i++) {
            check.due("got(1, " + i + ")", bus.got(1, i), i < 3 ? 21 + i : 0);
        }
        bus.plug(1, Buses.DISK, 4, 0);
        bus.run(3);
        bus.read(1, 0, 4);
        bus.run(2);
        check.due("another order's numbers", bus.got(2, 0), 0);
        check.due("change nothing of it", bus.got(1, 0), 21);
    }

    private static void tellsOfTheNumbersNotOfTheStatus() {
        PluggedBus bus = Buses.withDisk(8, 0);
        bus.write(0, 0, 4, -9);
        bus.run(1);
        for (int count = 1; count <= 4; count++) {
            bus.read(0, 0, count);
            bus.run(1);
            for (int i = -1; i <= 5; i++) {
                check.due("got(" + count + ", " + i + ")", bus.got(count, i), i >= 0 && i < count ? i - 9 : 0);
            }
        }
        check.due("no such order, no such number", bus.got(5, -1), -1);
        check.due("no such order, no such number", bus.got(-1, 4), -1);
    }

    /** "0 .. for another order". */
    private static void isZeroForAWrite() {
        PluggedBus bus = Buses.withDisk(1, 0);
        bus.write(0, 0, 1, 5);
        bus.read(0, 0, 2);
        bus.run(1);
        check.due("a write", bus.got(0, 0), 0);
        check.due("a write's second", bus.got(0, 1), 0);
        check.due("a read out of range", bus.got(1, 0), 0);
    }
}
