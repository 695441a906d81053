/** Promise 4: press. */
final class PressTest {
    private static final Check check = new Check();

    public static void main(String[] args) {
        refusesWhereThereAreNoKeys();
        takesCodes();
        keepsFour();
        countsOnlyWhatWaits();
        keepsTheCodesThatWaitOverAReset();
        changesNothingWhenItRefuses();
        refusesAgainWhenTheKeysAreGone();
        check.end();
    }

    /** "false .. when there are none". */
    private static void refusesWhereThereAreNoKeys() {
        PluggedBus bus = Buses.withHub();
        bus.plug(1, Buses.DISK, 8, 0);
        int[] ports = {-1, 0, 1, 2, 3, 4, 5, 6, Integer.MIN_VALUE, Integer.MAX_VALUE};
        for (int port : ports) {
            check.due("press(" + port + ", 1)", bus.press(port, 1), false);
        }
    }

    /** "A code (0 .. 255) waits at the KEYS in a port". */
    private static void takesCodes() {
        PluggedBus bus = new PluggedBus();
        bus.plug(1, Buses.KEYS, 1, 1);
        check.due("code -1", bus.press(1, -1), false);
        check.due("code 256", bus.press(1, 256), false);
        check.due("code 255, before any frame", bus.press(1, 255), true);
        check.due("code 0", bus.press(1, 0), true);
        check.due("enumeration and two polls", bus.run(3), 8);
        check.due("both came", bus.keys(), 2);
        check.due("the first", bus.key(1), 256 + 255);
        check.due("the second", bus.key(0), 256);
    }

    /** "false .. when .. 4 wait". */
    private static void keepsFour() {
        PluggedBus bus = Buses.withKeys(1, 1);
        for (int code = 1; code <= 4; code++) {
            check.due("press " + code, bus.press(0, code), true);
        }
        check.due("a fifth", bus.press(0, 5), false);
        bus.run(1);
        check.due("after one was taken", bus.press(0, 6), true);
        check.due("and again full", bus.press(0, 7), false);
        bus.run(8);
        check.due("keys()", bus.keys(), 5);
        int[] codes = {6, 4, 3, 2, 1};
        for (int back = 0; back < 5; back++) {
            check.due("key(" + back + ")", bus.key(back), codes[back]);
        }
    }

    /** What is held waits no more. */
    private static void countsOnlyWhatWaits() {
        PluggedBus bus = Buses.withKeys(1, 1);
        for (int code = 1; code <= 4; code++) {
            bus.press(0, code);
        }
        bus.spoil(1, Buses.TOKEN);
        bus.run(1);
        check.due("a lost token: all four wait", bus.press(0, 5), false);
        bus.spoil(1, Buses.DATA);
        bus.run(1);
        check.due("lost data: one is held", bus.press(0, 5), true);
        check.due("nothing came yet", bus.keys(), 0);
        bus.run(1);
        check.due("the held one comes", bus.key(0), 1);
        check.due("none was made in its place", bus.press(0, 6), false);
    }

    /** "false, changing nothing, when there are none, 4 wait, or the code is not as said." */
    private static void changesNothingWhenItRefuses() {
        int[] wrong = {-1, 256, 257, 512, -256, Integer.MIN_VALUE, Integer.MAX_VALUE};
        PluggedBus bus = Buses.withKeys(1, 1);
        for (int code : wrong) {
            check.due("press(0, " + code + ")", bus.press(0, code), false);
        }
        bus.run(3);
        check.due("none of them comes", bus.keys(), 0);
        for (int code = 1; code <= 8; code++) {
            check.due("press(0, " + code + ")", bus.press(0, code), code <= 4);
        }
        bus.run(10);
        check.due("the first four come", bus.keys(), 4);
        check.due("the last of them", bus.key(0), 4);
    }

    private static void refusesAgainWhenTheKeysAreGone() {
        PluggedBus bus = Buses.withHubAnd(Buses.KEYS, 1, 1);
        check.due("keys behind a hub", bus.press(2, 1), true);
        check.due("beside them", bus.press(3, 1), false);
        bus.unplug(2);
        check.due("unplugged", bus.press(2, 1), false);
        bus.plug(2, Buses.DISK, 1, 0);
        check.due("a disk in their place", bus.press(2, 1), false);
    }

    /** What the keyboard held when it is enumerated again is gone, what waited stays. */
    private static void keepsTheCodesThatWaitOverAReset() {
        PluggedBus bus = Buses.withHubThatWillTellAgainOf(Buses.KEYS, 1, 1);
        for (int code = 11; code <= 13; code++) {
            bus.press(2, code);
        }
        bus.spoil(1, Buses.DATA);
        bus.spoil(2, Buses.HANDSHAKE);
        check.due("the hub's poll is lost, a key comes", bus.run(1), 2);
        check.due("the key", bus.key(0), 2 * 256 + 11);
        check.due("the hub tells again, enumeration", bus.run(1), 7);
        check.due("ready again", bus.view(2), Buses.READY);
        bus.run(1);
        check.due("keys()", bus.keys(), 2);
        check.due("the next one that waited", bus.key(0), 2 * 256 + 12);
        bus.run(1);
        check.due("and the last", bus.key(0), 2 * 256 + 13);
    }
}
