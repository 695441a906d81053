/** Promise 1: a new object. */
final class NewObjectTest {
    private static final Check check = new Check();

    public static void main(String[] args) {
        hasEmptyPorts();
        isSeenAsNothing();
        hasDoneNothing();
        isAnObjectOfItsOwn();
        check.end();
    }

    /** "Empty ports". */
    private static void hasEmptyPorts() {
        PluggedBus bus = new PluggedBus();
        for (int port = 0; port < 6; port++) {
            check.due("unplug(" + port + ")", bus.unplug(port), false);
            check.due("press(" + port + ", 0)", bus.press(port, 0), false);
            for (int k = 0; k < 8; k++) {
                check.due("image(" + port + ", " + k + ")", bus.image(port, k), 0);
            }
        }
        for (int port = 0; port < 2; port++) {
            check.due("room for a hub in port " + port, bus.plug(port, Buses.HUB, 0, 0), true);
        }
        for (int port = 2; port < 6; port++) {
            check.due("room for a disk in port " + port, bus.plug(port, Buses.DISK, 1, 0), true);
        }
    }

    /** "which the host sees as NOTHING." */
    private static void isSeenAsNothing() {
        PluggedBus bus = new PluggedBus();
        for (int frames = 0; frames < 3; frames++) {
            for (int port = 0; port < 6; port++) {
                check.due("view(" + port + ")", bus.view(port), Buses.NOTHING);
                check.due("address(" + port + ")", bus.address(port), 0);
                check.due("read(" + port + ", 0, 1)", bus.read(port, 0, 1), -1);
                check.due("write(" + port + ", 0, 1, 0)", bus.write(port, 0, 1, 0), -1);
            }
            check.due("run(40)", bus.run(40), 0);
        }
    }

    private static void hasDoneNothing() {
        PluggedBus bus = new PluggedBus();
        for (int k = 0; k < 16; k++) {
            check.due("order(" + k + ")", bus.order(k), -1);
            check.due("got(" + k + ", 0)", bus.got(k, 0), -1);
        }
        for (int back = 0; back < 8; back++) {
            check.due("key(" + back + ")", bus.key(back), -1);
        }
        check.due("keys()", bus.keys(), 0);
        check.due("load()", bus.load(), 0);
        check.due("transactions()", bus.transactions(), 0);
    }

    private static void isAnObjectOfItsOwn() {
        PluggedBus used = Buses.withDisk(1, 0);
        used.write(0, 0, 1, 5);
        used.spoil(10, Buses.TOKEN);
        PluggedBus bus = new PluggedBus();
        check.due("another object's device", bus.view(0), Buses.NOTHING);
        check.due("another object's order", bus.order(0), -1);
        used.run(1);
        check.due("another object's transactions", bus.transactions(), 0);
    }
}
