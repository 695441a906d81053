import java.util.ArrayList;
import java.util.List;
import java.util.Random;

/** Long runs of calls on a PluggedBus and on a LiteralBus: each call must answer the same. */
final class SideBySideTest {
    private static final int OBJECTS = 6000;
    /** No object is used for more. */
    private static final int CALLS = 512;
    private static final int[] ODD = {-1, 0, 6, 8, 9, 41, 61, 256, Integer.MIN_VALUE, Integer.MAX_VALUE};

    private final Random random;
    private final PluggedBus bus = new PluggedBus();
    private final LiteralBus twin = new LiteralBus();
    private final List<String> told = new ArrayList<>();
    private final int lossesInTen;
    private final int farthestLoss;
    private final int longestRun;
    private boolean same = true;

    private SideBySideTest(long seed) {
        random = new Random(seed);
        lossesInTen = random.nextInt(6);
        farthestLoss = random.nextBoolean() ? 12 : 40;
        longestRun = random.nextInt(8) == 0 ? 40 : 1 + random.nextInt(3);
    }

    public static void main(String[] args) {
        Check check = new Check();
        for (int seed = 0; seed < OBJECTS; seed++) {
            SideBySideTest test = new SideBySideTest(seed);
            for (int k = 0; k < CALLS && test.same; k++) {
                test.callSomething();
            }
            check.due("run " + seed + " ends as it should", test.same, true);
            if (!test.same) {
                System.out.println(String.join("\n", test.told));
                break;
            }
        }
        check.end();
    }

    private int mostly(int least, int most) {
        return random.nextInt(60) == 0 ? ODD[random.nextInt(ODD.length)] : least + random.nextInt(most - least + 1);
    }

    private void answers(String call, int got, int want) {
        told.add(call + " answered " + got + ", due is " + want);
        same = got == want;
    }

    private void answers(String call, boolean got, boolean want) {
        answers(call, got ? 1 : 0, want ? 1 : 0);
    }

    private void callSomething() {
        int what = random.nextInt(60);
        if (what < 5) {
            plug();
        } else if (what < 6) {
            int port = mostly(0, 5);
            answers("unplug(" + port + ")", bus.unplug(port), twin.unplug(port));
        } else if (what < 10) {
            int port = mostly(0, 5);
            int code = mostly(0, 255);
            answers("press(" + port + ", " + code + ")", bus.press(port, code), twin.press(port, code));
        } else if (what < 20) {
            spoil();
        } else if (what < 24) {
            give();
        } else if (what < 36) {
            int n = mostly(1, longestRun);
            answers("run(" + n + ")", bus.run(n), twin.run(n));
        } else {
            look();
        }
    }

    private void plug() {
        int port = mostly(0, 5);
        int kind = port < 2 && random.nextBoolean() ? 3 : mostly(1, 3);
        int a = kind == 3 ? mostly(0, 0) : mostly(1, 8);
        int b = kind == 3 ? mostly(0, 0) : kind == 2 ? mostly(1, random.nextBoolean() ? 60 : 20) : mostly(0, 3);
        String call = "plug(" + port + ", " + kind + ", " + a + ", " + b + ")";
        answers(call, bus.plug(port, kind, a, b), twin.plug(port, kind, a, b));
    }

    private void spoil() {
        if (random.nextInt(10) >= lossesInTen) {
            look();
            return;
        }
        int k = mostly(1, farthestLoss);
        int part = mostly(0, 3);
        answers("spoil(" + k + ", " + part + ")", bus.spoil(k, part), twin.spoil(k, part));
    }

    private void give() {
        int port = mostly(0, 5);
        int block = mostly(0, random.nextBoolean() ? 7 : 2);
        int count = mostly(1, 4);
        if (random.nextBoolean()) {
            String call = "read(" + port + ", " + block + ", " + count + ")";
            answers(call, bus.read(port, block, count), twin.read(port, block, count));
        } else {
            int value = mostly(1, 1000);
            String call = "write(" + port + ", " + block + ", " + count + ", " + value + ")";
            answers(call, bus.write(port, block, count, value), twin.write(port, block, count, value));
        }
    }

    private void look() {
        int x = mostly(0, 5);
        switch (random.nextInt(9)) {
            case 0:
                answers("view(" + x + ")", bus.view(x), twin.view(x));
                break;
            case 1:
                answers("address(" + x + ")", bus.address(x), twin.address(x));
                break;
            case 2:
                int k = mostly(0, 15);
                answers("order(" + k + ")", bus.order(k), twin.order(k));
                break;
            case 3:
                int read = mostly(0, 15);
                int i = mostly(0, 3);
                answers("got(" + read + ", " + i + ")", bus.got(read, i), twin.got(read, i));
                break;
            case 4:
                int block = mostly(0, 7);
                answers("image(" + x + ", " + block + ")", bus.image(x, block), twin.image(x, block));
                break;
            case 5:
                answers("keys()", bus.keys(), twin.keys());
                break;
            case 6:
                int back = mostly(0, 7);
                answers("key(" + back + ")", bus.key(back), twin.key(back));
                break;
            case 7:
                answers("load()", bus.load(), twin.load());
                break;
            default:
                answers("transactions()", bus.transactions(), twin.transactions());
                break;
        }
    }
}
