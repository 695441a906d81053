/** Long runs of calls with numbers that are as said and others: no call throws, and what must always hold does. */
final class SoakTest {
    private static final int OBJECTS = 4000;
    /** With the looks, fewer than the 512 calls that an object is used for. */
    private static final int CALLS = 180;
    private static final int CALLS_BETWEEN_LOOKS = 30;
    private static final int[] ODD = {-1, 6, 8, 41, 256, Integer.MIN_VALUE, Integer.MAX_VALUE};

    private final Check check;
    private final PluggedBus bus = new PluggedBus();
    private long seed;
    private long sumOfRuns = 0;
    private int keysBefore = 0;

    private SoakTest(Check check, long seed) {
        this.check = check;
        this.seed = seed;
    }

    public static void main(String[] args) {
        Check check = new Check();
        for (int i = 0; i < OBJECTS; i++) {
            SoakTest test = new SoakTest(check, i);
            for (int k = 0; k < CALLS; k++) {
                test.callSomething();
                if (k % CALLS_BETWEEN_LOOKS == CALLS_BETWEEN_LOOKS - 1) {
                    test.lookAtAll();
                }
            }
        }
        check.end();
    }

    /** The same numbers in each run of the test. */
    private int below(int bound) {
        seed = seed * 6364136223846793005L + 1442695040888963407L;
        return (int) ((seed >>> 33) % bound);
    }

    private int mostly(int least, int bound) {
        return below(40) == 0 ? ODD[below(ODD.length)] : least + below(bound);
    }

    private void callSomething() {
        switch (below(8)) {
            case 0:
                plugSomething();
                break;
            case 1:
                if (below(3) == 0) {
                    bus.unplug(mostly(0, 6));
                }
                break;
            case 2:
                bus.press(mostly(0, 6), mostly(0, 256));
                break;
            case 3:
                bus.spoil(mostly(1, 12), mostly(0, 4));
                break;
            case 4:
                bus.read(mostly(0, 6), mostly(0, 5), mostly(1, 4));
                break;
            case 5:
                bus.write(mostly(0, 6), mostly(0, 5), mostly(1, 4), mostly(0, 1000));
                break;
            default:
                runSome(mostly(1, 3));
                break;
        }
    }

    private void plugSomething() {
        int port = mostly(0, 6);
        switch (below(3)) {
            case 0:
                bus.plug(port, Buses.DISK, mostly(1, 8), mostly(0, 4));
                break;
            case 1:
                bus.plug(port, Buses.KEYS, mostly(1, 8), mostly(1, 60));
                break;
            default:
                bus.plug(port, Buses.HUB, 0, 0);
                break;
        }
    }

    private void runSome(int n) {
        int made = bus.run(n);
        if (n < 1 || n > 40) {
            check.due("run(" + n + ")", made, -1);
            return;
        }
        check.due("at most 2 hubs, 4 KEYS and 12 others in a frame", made >= 0 && made <= n * 18, true);
        sumOfRuns += made;
    }

    private void lookAtAll() {
        check.due("transactions()", bus.transactions(), sumOfRuns);
        check.due("the load is in the budget", bus.load() >= 0 && bus.load() <= 90, true);
        check.due("keys do not go down", bus.keys() >= keysBefore, true);
        keysBefore = bus.keys();
        lookAtPorts();
        for (int k = 0; k < 16; k++) {
            int state = bus.order(k);
            check.due("an order's state", state >= -1 && state <= 4, true);
            check.due("no number of no order", state == -1 ? bus.got(k, 0) : -1, -1);
        }
        int oddNumber = ODD[below(ODD.length)];
        bus.got(oddNumber, oddNumber);
        bus.image(oddNumber, oddNumber);
        bus.key(oddNumber);
    }

    private void lookAtPorts() {
        int going = 0;
        int addresses = 0;
        for (int port = 0; port < 6; port++) {
            int view = bus.view(port);
            int address = bus.address(port);
            boolean seen = view == Buses.GOING || view == Buses.READY;
            check.due("a view", view >= Buses.NOTHING && view <= Buses.BUDGET, true);
            check.due("an address where one is due", seen ? address >= 1 && address <= 4 : address == 0, true);
            check.due("an address of its own", seen && (addresses >> address & 1) == 1, false);
            check.due("TIER behind a hub only", view == Buses.TIER && port < 2, false);
            addresses |= seen ? 1 << address : 0;
            going += view == Buses.GOING ? 1 : 0;
        }
        check.due("at most one is GOING", going <= 1, true);
    }
}
