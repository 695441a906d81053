/** Promise 17: transactions. */
final class TransactionsTest {
    public static void main(String[] args) {
        Check check = new Check();
        PluggedBus bus = new PluggedBus();
        check.due("none", bus.transactions(), 0);
        bus.plug(0, Buses.HUB, 0, 0);
        bus.plug(2, Buses.DISK, 4, 1);
        int sum = bus.run(1);
        check.due("enumeration", bus.transactions(), 6);
        sum += bus.run(1);
        check.due("a poll, enumeration", bus.transactions(), 13);
        bus.write(2, 0, 2, 1);
        check.due("an order is none", bus.transactions(), 13);
        bus.spoil(2, Buses.TOKEN);
        sum += bus.run(1);
        check.due("a lost one is one too", bus.transactions(), 13 + 1 + 1 + 5);
        sum += bus.run(40);
        check.due("40 polls", bus.transactions(), 60);
        check.due("as run() told", sum, 60);
        bus.run(0);
        bus.run(41);
        check.due("wrong runs make none", bus.transactions(), 60);
        check.end();
    }
}
