/** Promises 14 and 15: keys and key. */
final class KeysTest {
    private static final Check check = new Check();

    public static void main(String[] args) {
        countsWhatIsTaken();
        tellsTheLatestEight();
        tellsThePort();
        staysWhenTheKeysAreGone();
        check.end();
    }

    /** "How many KEYs the host has taken." */
    private static void countsWhatIsTaken() {
        PluggedBus bus = Buses.withKeys(2, 1);
        check.due("none", bus.keys(), 0);
        check.due("key(0)", bus.key(0), -1);
        bus.press(0, 65);
        check.due("pressed only", bus.keys(), 0);
        bus.run(1);
        check.due("not polled in frame 1", bus.keys(), 0);
        bus.run(1);
        check.due("polled in frame 2", bus.keys(), 1);
        check.due("key(0)", bus.key(0), 65);
        check.due("key(1)", bus.key(1), -1);
        bus.press(0, 66);
        bus.spoil(1, Buses.HANDSHAKE);
        bus.run(2);
        check.due("taken though its handshake is lost", bus.keys(), 2);
        bus.run(4);
        check.due("and not again", bus.keys(), 2);
    }

    /** "The KEY taken back keys before the latest one (0 .. 7)"; "-1 when there is none." */
    private static void tellsTheLatestEight() {
        PluggedBus bus = Buses.withKeys(1, 1);
        for (int code = 0; code < 21; code++) {
            bus.press(0, code);
            bus.run(1);
            check.due("keys()", bus.keys(), code + 1);
            for (int back = 0; back < 8; back++) {
                check.due("key(" + back + ")", bus.key(back), back <= code ? code - back : -1);
            }
        }
        int[] wrong = {-1, 8, 20, Integer.MIN_VALUE, Integer.MAX_VALUE};
        for (int back : wrong) {
            check.due("key(" + back + ")", bus.key(back), -1);
        }
    }

    /** "its code, plus 256 times its port". */
    private static void tellsThePort() {
        PluggedBus bus = new PluggedBus();
        bus.plug(1, Buses.HUB, 0, 0);
        bus.plug(5, Buses.KEYS, 1, 1);
        bus.plug(4, Buses.KEYS, 1, 1);
        bus.press(5, 255);
        bus.press(4, 0);
        bus.run(5);
        check.due("keys()", bus.keys(), 2);
        check.due("port 4's came first", bus.key(1), 4 * 256);
        check.due("port 5's", bus.key(0), 5 * 256 + 255);
    }

    private static void staysWhenTheKeysAreGone() {
        PluggedBus bus = Buses.withKeys(1, 1);
        bus.press(0, 3);
        bus.run(1);
        bus.press(0, 4);
        bus.unplug(0);
        bus.run(2);
        check.due("keys()", bus.keys(), 1);
        check.due("key(0)", bus.key(0), 3);
    }
}
