/** The document's Terms on orders: a test for each edge that they name. */
final class TermOrdersTest {
    private static final Check check = new Check();

    public static void main(String[] args) {
        thereAreAtMostSixteen();
        ordersThatWereRefusedHaveNoNumber();
        theOrderInHandIsTheLeast();
        anOrderThatIsOverIsNotInHand();
        aWriteHasAnOutForEachBlock();
        aReadHasAnInForEachBlock();
        togglesTurnOnFromOrderToOrder();
        theHostGoesOnOnlyWhenAgreedTo();
        theHostGoesOnOnlyWhenItTakesAPacket();
        aDiskIsIdleWhenItsStatusIsMade();
        aStatusThatIsLostComesAgain();
        aBlockIsWrittenWhenItsPacketIsTaken();
        whatIsMadeOfABlockIsItsNumber();
        anOrderIsDoneWithTheStatus();
        anOrderFailsAtTheThirdFault();
        anOrderFailsAtTheThirdFaultOverFrames();
        otherOrdersOfAFailedDiskAreGone();
        aFailedDiskTakesNoOrders();
        check.end();
    }

    /** "ORDERS, numbered 0, 1, .., at most 16". */
    private static void thereAreAtMostSixteen() {
        PluggedBus bus = Buses.withTwoDisks();
        for (int k = 0; k < 16; k++) {
            check.due("no order yet", bus.order(k), -1);
            int port = k % 2;
            int block = k % 3 == 2 ? 7 : 0;
            check.due("order", k % 4 < 2 ? bus.read(port, block, 2) : bus.write(port, block, 2, k), k);
        }
        check.due("a 17th read", bus.read(0, 0, 1), -1);
        check.due("a 17th write", bus.write(1, 0, 1, 1), -1);
        check.due("a 17th out of range", bus.read(0, 7, 2), -1);
        bus.run(10);
        for (int k = 0; k < 16; k++) {
            check.due("order(" + k + ")", bus.order(k), k % 3 == 2 ? 4 : 1);
        }
        check.due("a 17th when all are over", bus.read(0, 0, 1), -1);
        check.due("order(16)", bus.order(16), -1);
        check.due("got(16, 0)", bus.got(16, 0), -1);
    }

    private static void ordersThatWereRefusedHaveNoNumber() {
        PluggedBus bus = Buses.withDisk(1, 0);
        for (int i = 0; i < 20; i++) {
            check.due("refused", bus.read(1, 0, 1), -1);
            check.due("refused", bus.write(0, 8, 1, 1), -1);
        }
        check.due("the first one", bus.read(0, 0, 1), 0);
    }

    /** "The order in hand of a READY DISK is its least that is not over." */
    private static void theOrderInHandIsTheLeast() {
        PluggedBus bus = Buses.withDisk(8, 3);
        bus.write(0, 0, 4, 10);
        bus.write(0, 0, 1, 90);
        bus.read(0, 0, 2);
        check.due("9 for the first, 3 for the second", bus.run(1), 12);
        check.due("the first", bus.order(0), 1);
        check.due("the second", bus.order(1), 0);
        check.due("the third", bus.order(2), 0);
        check.due("the rest of the second, the third", bus.run(1), 3 + 7);
        check.due("the second came last", bus.image(0, 0), 90);
        check.due("but before the third", bus.got(2, 0), 90);
        check.due("which reads the first's, too", bus.got(2, 1), 11);
    }

    private static void anOrderThatIsOverIsNotInHand() {
        PluggedBus bus = Buses.withDisk(2, 0);
        bus.read(0, 1, 2);
        bus.write(0, 0, 1, 4);
        check.due("RANGE is passed over", bus.run(1), 3);
        check.due("the write", bus.order(1), 1);
        check.due("nothing is left", bus.run(5), 0);
    }

    /** "It goes: OUT of a COMMAND (the order); for a WRITE an OUT for each block, of its value". */
    private static void aWriteHasAnOutForEachBlock() {
        for (int count = 1; count <= 4; count++) {
            for (int block = 0; block + count <= 8; block++) {
                PluggedBus bus = Buses.withDisk(8, 0);
                bus.write(0, block, count, 300);
                check.due("a write of " + count, bus.run(1), 1 + count + 1);
                for (int k = 0; k < 8; k++) {
                    boolean written = k >= block && k < block + count;
                    check.due("block " + k, bus.image(0, k), written ? 300 + k - block : 0);
                }
            }
        }
    }

    /** "for a READ an IN for each; then an IN of the STATUS." */
    private static void aReadHasAnInForEachBlock() {
        PluggedBus bus = Buses.withDisk(8, 0);
        bus.write(0, 0, 4, 40);
        bus.write(0, 4, 4, 44);
        bus.run(1);
        int[][] reads = {{0, 1}, {7, 1}, {0, 4}, {4, 4}, {6, 2}, {3, 3}};
        for (int k = 0; k < reads.length; k++) {
            int block = reads[k][0];
            int count = reads[k][1];
            check.due("read", bus.read(0, block, count), 2 + k);
            check.due("a read of " + count, bus.run(1), 1 + count + 1);
            for (int i = 0; i < 5; i++) {
                check.due("number " + i, bus.got(2 + k, i), i < count ? 40 + block + i : 0);
            }
        }
    }

    private static void togglesTurnOnFromOrderToOrder() {
        PluggedBus bus = Buses.withDisk(8, 1);
        for (int k = 0; k < 16; k += 2) {
            int count = 1 + k / 2 % 4;
            bus.write(0, k / 4, count, 1000 * k);
            bus.read(0, k / 4, count);
            check.due("orders of " + count, bus.run(2), 2 * (1 + 1 + count + 1));
            check.due("the write", bus.order(k), 1);
            check.due("the read", bus.order(k + 1), 1);
            check.due("its last number", bus.got(k + 1, count - 1), 1000 * k + count - 1);
        }
    }

    /** "The host's toggle for OUT turns with each OUT that is agreed to, and it goes on to the next". */
    private static void theHostGoesOnOnlyWhenAgreedTo() {
        PluggedBus bus = Buses.withDisk(4, 2);
        bus.write(0, 0, 4, 5);
        Buses.spoilRow(bus, 2, 1, Buses.HANDSHAKE);
        Buses.spoilRow(bus, 4, 2, Buses.DATA);
        check.due("2 refusals, 2 faults", bus.run(1), 6 + 2 + 2);
        for (int k = 0; k < 4; k++) {
            check.due("block " + k, bus.image(0, k), 5 + k);
        }
    }

    /** "for IN it goes on when it takes a packet." */
    private static void theHostGoesOnOnlyWhenItTakesAPacket() {
        PluggedBus bus = Buses.withDisk(3, 1);
        bus.write(0, 0, 3, 5);
        bus.run(1);
        bus.read(0, 0, 3);
        bus.spoil(3, Buses.HANDSHAKE);
        Buses.spoilRow(bus, 5, 2, Buses.DATA);
        check.due("a refusal, one had already, 2 faults", bus.run(1), 5 + 1 + 1 + 2);
        for (int i = 0; i < 3; i++) {
            check.due("number " + i, bus.got(1, i), 5 + i);
        }
        check.due("DONE", bus.order(1), 1);
    }

    /** "it is IDLE when that is made": a status that it still holds does not keep it from the next command. */
    private static void aDiskIsIdleWhenItsStatusIsMade() {
        PluggedBus bus = Buses.withDisk(2, 0);
        bus.write(0, 0, 1, 3);
        bus.write(0, 1, 1, 4);
        bus.spoil(3, Buses.HANDSHAKE);
        check.due("3, then a command, a block, the old status, the new one", bus.run(1), 3 + 4);
        check.due("the first", bus.order(0), 1);
        check.due("the second", bus.order(1), 1);
        check.due("its block", bus.image(0, 1), 4);
    }

    private static void aStatusThatIsLostComesAgain() {
        PluggedBus bus = Buses.withDisk(2, 0);
        bus.write(0, 0, 1, 3);
        bus.read(0, 0, 1);
        Buses.spoilRow(bus, 3, 2, Buses.DATA);
        check.due("two lost", bus.run(1), 3 + 2 + 3);
        check.due("the write", bus.order(0), 1);
        check.due("the read", bus.order(1), 1);
        check.due("its number", bus.got(1, 0), 3);
    }

    /** "(a block is written when its packet is taken": 12 transactions end behind the second of four. */
    private static void aBlockIsWrittenWhenItsPacketIsTaken() {
        PluggedBus bus = Buses.withDisk(8, 3);
        bus.write(0, 0, 1, 1);
        bus.write(0, 4, 4, 51);
        check.due("a full frame", bus.run(1), 12);
        int[] content = {1, 0, 0, 0, 51, 52, 0, 0};
        for (int k = 0; k < 8; k++) {
            check.due("block " + k, bus.image(0, k), content[k]);
        }
        check.due("not over", bus.order(1), 0);
        check.due("two more and the status", bus.run(1), 3);
        check.due("the last block", bus.image(0, 7), 54);
    }

    /** "what is made of a block is its number then)". */
    private static void whatIsMadeOfABlockIsItsNumber() {
        PluggedBus bus = Buses.withDisk(2, 0);
        bus.read(0, 0, 2);
        bus.write(0, 0, 2, 8);
        bus.read(0, 0, 2);
        bus.run(1);
        check.due("before the write", bus.got(0, 0) + bus.got(0, 1), 0);
        check.due("after it", bus.got(2, 0), 8);
        check.due("and", bus.got(2, 1), 9);
    }

    /** "When the host takes the status, the order is DONE." */
    private static void anOrderIsDoneWithTheStatus() {
        PluggedBus bus = Buses.withKeys(1, 60);
        bus.plug(1, Buses.DISK, 4, 0);
        bus.run(2);
        bus.read(1, 0, 4);
        check.due("40 units: a command, four blocks", bus.run(1), 1 + 5);
        check.due("all is taken, but it is not over", bus.order(0), 0);
        check.due("the status", bus.run(1), 1 + 1);
        check.due("DONE", bus.order(0), 1);
    }

    /** "At the third fault one after the other the port is FAULTS: first the order in hand ends with FAULTS". */
    private static void anOrderFailsAtTheThirdFault() {
        for (int k = 1; k <= 4; k++) {
            for (int many = 2; many <= 3; many++) {
                PluggedBus bus = Buses.withDisk(2, 0);
                bus.write(0, 0, 2, 7);
                Buses.spoilRow(bus, k, many, Buses.TOKEN);
                check.due(many + " faults from " + k + " on", bus.run(2), many == 2 ? 4 + 2 : k + 2);
                check.due("the order", bus.order(0), many == 2 ? 1 : 2);
                check.due("the port", bus.view(0), many == 2 ? Buses.READY : Buses.FAULTS);
                check.due("its address", bus.address(0), many == 2 ? 1 : 0);
            }
        }
    }

    private static void anOrderFailsAtTheThirdFaultOverFrames() {
        for (int third = 0; third <= 1; third++) {
            PluggedBus bus = Buses.withDisk(4, 3);
            bus.write(0, 0, 4, 1);
            bus.read(0, 0, 1);
            Buses.spoilRow(bus, 11, 2 + third, Buses.TOKEN);
            check.due("9, a command, two faults", bus.run(1), 12);
            check.due("two faults", bus.order(1), 0);
            bus.run(1);
            check.due("then a third or none", bus.order(1), third == 1 ? 2 : 1);
            check.due("the write", bus.order(0), 1);
        }
    }

    /** "then the port is DETACHED (its other orders GONE) and fails with FAULTS." */
    private static void otherOrdersOfAFailedDiskAreGone() {
        PluggedBus bus = Buses.withTwoDisks();
        bus.read(0, 0, 1);
        bus.run(1);
        bus.read(0, 5, 4);
        bus.read(0, 0, 1);
        bus.read(0, 0, 1);
        bus.write(0, 0, 1, 1);
        Buses.spoilRow(bus, 1, 3, Buses.DATA);
        check.due("three faults", bus.run(1), 3);
        bus.read(1, 0, 1);
        bus.run(1);
        int[] due = {1, 4, 2, 3, 3, 1};
        for (int k = 0; k < due.length; k++) {
            check.due("order(" + k + ")", bus.order(k), due[k]);
        }
    }

    private static void aFailedDiskTakesNoOrders() {
        PluggedBus bus = Buses.withDisk(1, 0);
        bus.read(0, 0, 1);
        Buses.spoilRow(bus, 1, 3, Buses.TOKEN);
        bus.run(1);
        check.due("read", bus.read(0, 0, 1), -1);
        check.due("write", bus.write(0, 0, 1, 1), -1);
        bus.unplug(0);
        bus.plug(0, Buses.DISK, 1, 0);
        check.due("a new one", bus.run(1), 6);
        check.due("takes them", bus.write(0, 0, 1, 1), 1);
        check.due("and does them", bus.run(1), 3);
    }
}
