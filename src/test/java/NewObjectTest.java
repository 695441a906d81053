/** Promise 1: a new object. */
final class NewObjectTest {
    public static void main(String[] args) {
        Check check = new Check();
        PluggedBus bus = new PluggedBus();
        for (int port = 0; port < 6; port++) {
            check.due("view(" + port + ")", bus.view(port), 0);
            check.due("address(" + port + ")", bus.address(port), 0);
            check.due("unplug(" + port + ")", bus.unplug(port), false);
            check.due("image(" + port + ", 0)", bus.image(port, 0), 0);
        }
        check.due("order(0)", bus.order(0), -1);
        check.due("keys()", bus.keys(), 0);
        check.due("key(0)", bus.key(0), -1);
        check.due("load()", bus.load(), 0);
        check.due("transactions()", bus.transactions(), 0);
        check.due("run(40)", bus.run(40), 0);
        check.due("transactions() after frames", bus.transactions(), 0);
        check.end();
    }
}
