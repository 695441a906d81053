/** The document's Terms on a frame: a test for each edge that its five steps name. */
final class TermFrameTest {
    private static final Check check = new Check();

    public static void main(String[] args) {
        aFrameHasRoomForTenOfAnEnumeration();
        aFrameHasRoomForTwelveOfDisks();
        unitsThatAreLeftAreNotKept();
        bothOwnPortsAreHeardOf();
        aChangeIsHeardOfOnce();
        ownChangesAreHeardBeforePolls();
        keysArePolledInMultiplesOfTheirInterval();
        keysArePolledOnceAFrame();
        hubsArePolledInEachFrame();
        lostAndRefusedPollsCostTheSame();
        aNewKeyboardIsPolledInTheNextFrame();
        enumerationNeedsTenUnits();
        theLeastThatWaitsBegins();
        aPortThatIsGoingIsNotOvertaken();
        allThatFailAtOnceDoSoInOneFrame();
        whatWaitsFailsOnlyWithTenUnitsLeft();
        disksNeedEightUnits();
        disksGetWhatEnumerationLeaves();
        theFirstDiskServedIsTheLeast();
        disksAreServedInTurnAndAfterFiveComesZero();
        theTurnGoesOnInTheNextFrame();
        aDiskWithoutOrdersIsPassedOver();
        theFramesNumberGrowsByOne();
        theFramesNumberDoesNotWrap();
        check.end();
    }

    /** "A FRAME has 100 units." */
    private static void aFrameHasRoomForTenOfAnEnumeration() {
        PluggedBus bus = new PluggedBus();
        bus.plug(0, Buses.DISK, 1, 0);
        bus.plug(1, Buses.DISK, 1, 0);
        check.due("ten", bus.run(1), 10);
        check.due("two", bus.run(1), 2);
        check.due("none", bus.run(1), 0);
    }

    private static PluggedBus withDiskAndTenOrders() {
        PluggedBus bus = Buses.withDisk(4, 0);
        for (int k = 0; k < 10; k++) {
            bus.write(0, 0, 4, k);
        }
        return bus;
    }

    private static void aFrameHasRoomForTwelveOfDisks() {
        PluggedBus bus = withDiskAndTenOrders();
        check.due("twelve", bus.run(1), 12);
        check.due("the second order is over", bus.order(1), 1);
        check.due("the third is not", bus.order(2), 0);
    }

    private static void unitsThatAreLeftAreNotKept() {
        PluggedBus bus = withDiskAndTenOrders();
        check.due("two frames, 4 units left in each", bus.run(2), 24);
        check.due("three more", bus.run(3), 36);
        check.due("the rest is none", bus.run(1), 0);
    }

    /** "1. For ports 0, 1: if it is changed, it is so no more, and the host hears of it." */
    private static void bothOwnPortsAreHeardOf() {
        PluggedBus bus = Buses.withTwoDisks();
        bus.unplug(0);
        bus.unplug(1);
        check.due("no transaction", bus.run(1), 0);
        check.due("port 0", bus.view(0), Buses.NOTHING);
        check.due("port 1", bus.view(1), Buses.NOTHING);
    }

    private static void aChangeIsHeardOfOnce() {
        PluggedBus bus = Buses.withTwoDisks();
        check.due("port 0", bus.address(0), 1);
        check.due("port 1", bus.address(1), 2);
        check.due("no enumeration again", bus.run(5), 0);
        bus.unplug(0);
        bus.run(1);
        check.due("port 1 has not changed", bus.view(1), Buses.READY);
    }

    private static void ownChangesAreHeardBeforePolls() {
        PluggedBus bus = Buses.withKeys(1, 1);
        bus.plug(1, Buses.KEYS, 1, 1);
        bus.run(1);
        check.due("two polls", bus.run(1), 2);
        bus.unplug(1);
        check.due("one poll", bus.run(1), 1);
        bus.unplug(0);
        check.due("no poll", bus.run(1), 0);
    }

    /** "2. For ports 0 .. 5: READY KEYS, if the frame's number is a multiple of the interval". */
    private static void keysArePolledInMultiplesOfTheirInterval() {
        for (int interval = 1; interval <= 8; interval++) {
            PluggedBus bus = Buses.withKeys(interval, 1);
            bus.plug(1, Buses.KEYS, 8, 1);
            int enumeration = 6;
            for (int frame = 1; frame <= 33; frame++) {
                int due = enumeration + (frame % interval == 0 ? 1 : 0) + (frame % 8 == 0 ? 1 : 0);
                check.due("interval " + interval + ", frame " + frame, bus.run(1), due);
                enumeration = 0;
            }
        }
    }

    /** "and READY HUBs are polled once; it costs their cost." */
    private static void keysArePolledOnceAFrame() {
        PluggedBus bus = Buses.withKeys(2, 1);
        for (int code = 1; code <= 4; code++) {
            bus.press(0, code);
        }
        for (int frame = 1; frame <= 8; frame++) {
            bus.run(1);
            check.due("keys() after frame " + frame, bus.keys(), frame / 2);
        }
    }

    private static void hubsArePolledInEachFrame() {
        PluggedBus bus = new PluggedBus();
        bus.plug(0, Buses.HUB, 0, 0);
        bus.plug(1, Buses.HUB, 0, 0);
        bus.run(2);
        for (int frame = 2; frame <= 10; frame++) {
            check.due("frame " + frame, bus.run(1), 2);
        }
    }

    /** 40 units are left for the disk, however the poll went. */
    private static void lostAndRefusedPollsCostTheSame() {
        for (int part = 0; part <= 3; part++) {
            for (int code = 0; code <= 1; code++) {
                PluggedBus bus = Buses.withKeys(1, 60);
                bus.plug(1, Buses.DISK, 4, 0);
                bus.run(2);
                bus.write(1, 0, 4, 1);
                if (code == 1) {
                    bus.press(0, 1);
                }
                bus.spoil(1, part);
                check.due("a poll without part " + part, bus.run(1), 1 + 5);
            }
        }
        PluggedBus bus = Buses.withKeys(8, 60);
        bus.plug(1, Buses.DISK, 4, 0);
        bus.run(1);
        bus.write(1, 0, 4, 1);
        check.due("a poll that is not made costs nothing", bus.run(1), 6);
    }

    private static void aNewKeyboardIsPolledInTheNextFrame() {
        PluggedBus bus = new PluggedBus();
        bus.plug(0, Buses.KEYS, 1, 1);
        bus.press(0, 1);
        check.due("enumeration", bus.run(1), 6);
        check.due("no poll yet", bus.keys(), 0);
        check.due("a poll", bus.run(1), 1);
        check.due("keys()", bus.keys(), 1);
    }

    /** "3. As long as 10 units are left": 20 and 10 are enough for two and one, 19 for one. */
    private static void enumerationNeedsTenUnits() {
        int[] costs = {16, 17, 26};
        int[] due = {2, 1, 1};
        for (int i = 0; i < costs.length; i++) {
            PluggedBus bus = Buses.withHub();
            bus.plug(1, Buses.KEYS, 1, 60);
            bus.plug(2, Buses.KEYS, 1, costs[i]);
            bus.run(6);
            check.due("load()", bus.load(), 64 + costs[i]);
            bus.plug(3, Buses.DISK, 1, 0);
            check.due("beside a load of " + (64 + costs[i]), bus.run(1), 3 + due[i]);
            check.due("the rest", bus.run(8), 8 * 3 + 6 - due[i]);
        }
    }

    /** "if no port is GOING, enumeration of the least that WAITS begins". */
    private static void theLeastThatWaitsBegins() {
        PluggedBus bus = new PluggedBus();
        bus.plug(1, Buses.DISK, 1, 0);
        bus.plug(0, Buses.HUB, 0, 0);
        bus.plug(3, Buses.DISK, 1, 0);
        bus.plug(2, Buses.DISK, 1, 0);
        bus.run(5);
        int[] due = {1, 2, 3, 4, 0, 0};
        for (int port = 0; port < 6; port++) {
            check.due("address(" + port + ")", bus.address(port), due[port]);
        }
    }

    private static void aPortThatIsGoingIsNotOvertaken() {
        PluggedBus bus = Buses.withHub();
        bus.plug(2, Buses.DISK, 1, 0);
        bus.plug(3, Buses.DISK, 1, 0);
        check.due("a poll, 6 of port 2, 3 of port 3", bus.run(1), 1 + 9);
        check.due("port 3", bus.view(3), Buses.GOING);
        bus.plug(1, Buses.DISK, 1, 0);
        bus.spoil(5, Buses.TOKEN);
        bus.spoil(6, Buses.TOKEN);
        check.due("a poll, 3 of port 3, 6 of port 1", bus.run(1), 1 + 9);
        check.due("port 3", bus.view(3), Buses.READY);
        check.due("port 1 had two faults", bus.view(1), Buses.GOING);
        check.due("its address", bus.address(1), 4);
    }

    /** "(if it fails at once, the next one that waits, and so on); if none is GOING then, this is over". */
    private static void allThatFailAtOnceDoSoInOneFrame() {
        PluggedBus bus = withFourAddressesTaken();
        bus.plug(4, Buses.DISK, 1, 0);
        bus.plug(5, Buses.DISK, 1, 0);
        bus.write(2, 0, 4, 1);
        bus.write(2, 0, 4, 1);
        check.due("two polls, 92 units for the disk", bus.run(1), 2 + 11);
        check.due("port 4", bus.view(4), Buses.ADDRESSES);
        check.due("port 5", bus.view(5), Buses.ADDRESSES);
    }

    private static PluggedBus withFourAddressesTaken() {
        PluggedBus bus = new PluggedBus();
        bus.plug(0, Buses.HUB, 0, 0);
        bus.plug(1, Buses.HUB, 0, 0);
        bus.plug(2, Buses.DISK, 4, 0);
        bus.plug(3, Buses.DISK, 4, 0);
        bus.run(5);
        check.due("the fourth", bus.address(3), 4);
        return bus;
    }

    /** Three faults make port 3's enumeration 90 of the 92 units long; port 4 has to wait for the next frame. */
    private static void whatWaitsFailsOnlyWithTenUnitsLeft() {
        PluggedBus bus = withFourAddressesTaken();
        bus.unplug(3);
        bus.run(1);
        bus.plug(3, Buses.DISK, 1, 0);
        bus.plug(4, Buses.DISK, 1, 0);
        for (int k = 3; k <= 7; k += 2) {
            bus.spoil(k, Buses.TOKEN);
        }
        check.due("two polls, nine of port 3", bus.run(1), 2 + 9);
        check.due("port 3", bus.view(3), Buses.READY);
        check.due("port 4 still", bus.view(4), Buses.WAITS);
        check.due("two polls", bus.run(1), 2);
        check.due("port 4", bus.view(4), Buses.ADDRESSES);
    }

    /** "4. As long as 8 units are left": costs of 56, 57, 48, 49 and a hub leave 40, 39, 48, 47. */
    private static void disksNeedEightUnits() {
        int[] costs = {56, 57, 48, 49};
        int[] due = {5, 4, 6, 5};
        for (int i = 0; i < costs.length; i++) {
            PluggedBus bus = Buses.withHubAnd(Buses.KEYS, 1, costs[i]);
            bus.plug(3, Buses.DISK, 4, 0);
            bus.run(3);
            bus.write(3, 0, 4, 1);
            bus.write(3, 0, 4, 1);
            check.due("a disk beside a load of " + bus.load(), bus.run(1), 2 + due[i]);
        }
    }

    /** 44 units: four of an enumeration and none for the disk, then two and three; with 43 units one fewer. */
    private static void disksGetWhatEnumerationLeaves() {
        for (int cost = 52; cost <= 53; cost++) {
            PluggedBus bus = Buses.withHubAnd(Buses.KEYS, 1, cost);
            bus.plug(1, Buses.DISK, 4, 0);
            bus.run(2);
            check.due("port 1", bus.view(1), Buses.READY);
            bus.write(1, 0, 4, 1);
            bus.plug(3, Buses.DISK, 1, 0);
            check.due("two polls, four", bus.run(1), 2 + 4);
            check.due("two polls, two, the disk's", bus.run(1), 2 + 2 + (cost == 52 ? 3 : 2));
            check.due("port 3", bus.view(3), Buses.READY);
        }
    }

    /** "the first one behind the port served last (after 5 comes 0; at first behind 5)": losses tell who was served. */
    private static void theFirstDiskServedIsTheLeast() {
        for (int slow = 0; slow < 2; slow++) {
            PluggedBus bus = Buses.withTwoDisks();
            bus.read(1, 0, 1);
            bus.read(0, 0, 1);
            for (int i = 0; i < 3; i++) {
                bus.spoil(1 + slow + 2 * i, Buses.TOKEN);
            }
            check.due("three of each", bus.run(1), 6);
            check.due("port 1's", bus.order(0), slow == 1 ? 2 : 1);
            check.due("port 0's", bus.order(1), slow == 0 ? 2 : 1);
        }
    }

    private static void disksAreServedInTurnAndAfterFiveComesZero() {
        int[] disks = {0, 4, 5};
        for (int lost = 0; lost < 3; lost++) {
            PluggedBus bus = new PluggedBus();
            bus.plug(1, Buses.HUB, 0, 0);
            for (int port : disks) {
                bus.plug(port, Buses.DISK, 1, 0);
            }
            bus.run(4);
            for (int port : disks) {
                check.due("port " + port, bus.view(port), Buses.READY);
                bus.read(port, 0, 1);
            }
            for (int i = 0; i < 3; i++) {
                bus.spoil(1 + 1 + lost + 3 * i, Buses.TOKEN);
            }
            check.due("a poll, three of each", bus.run(1), 1 + 9);
            for (int k = 0; k < 3; k++) {
                check.due("port " + disks[k] + "'s", bus.order(k), k == lost ? 2 : 1);
            }
        }
    }

    /** "makes one transaction, 8 units; it is the one served last." Five a frame, so the frames begin with 1 and 3. */
    private static void theTurnGoesOnInTheNextFrame() {
        PluggedBus bus = Buses.withHubAnd(Buses.KEYS, 1, 56);
        bus.plug(1, Buses.DISK, 8, 0);
        bus.run(2);
        bus.plug(3, Buses.DISK, 8, 0);
        bus.run(2);
        bus.write(1, 0, 4, 11);
        bus.write(3, 0, 4, 31);
        check.due("1, 3, 1, 3, 1", bus.run(1), 2 + 5);
        check.due("port 1 has two blocks", bus.image(1, 1), 12);
        check.due("port 3 has one", bus.image(3, 0), 31);
        check.due("no second", bus.image(3, 1), 0);
        check.due("3, 1, 3, 1, 3", bus.run(1), 2 + 5);
        check.due("port 1 has four blocks", bus.image(1, 3), 14);
        check.due("port 3, too", bus.image(3, 3), 34);
        check.due("neither is over", bus.order(0) + bus.order(1), 0);
        check.due("1, 3", bus.run(1), 2 + 2);
        check.due("both are", bus.order(0) + bus.order(1), 2);
    }

    private static void aDiskWithoutOrdersIsPassedOver() {
        PluggedBus bus = Buses.withTwoDisks();
        bus.write(1, 0, 4, 1);
        check.due("port 1 alone", bus.run(1), 6);
        bus.write(1, 0, 4, 2);
        bus.write(0, 0, 1, 3);
        check.due("0, 1, 0, 1, 0, 1, 1, 1, 1", bus.run(1), 9);
        check.due("port 0's", bus.order(2), 1);
        check.due("port 1's", bus.order(1), 1);
    }

    /** "5. The frame's number, 0 at first, grows by 1." */
    private static void theFramesNumberGrowsByOne() {
        for (int before = 0; before <= 16; before++) {
            PluggedBus bus = new PluggedBus();
            if (before > 0) {
                bus.run(before);
            }
            bus.run(0);
            bus.run(41);
            bus.run(-1);
            bus.plug(0, Buses.KEYS, 8, 1);
            bus.run(1);
            for (int frame = before + 1; frame <= before + 17; frame++) {
                check.due("frame " + frame, bus.run(1), frame % 8 == 0 ? 1 : 0);
            }
        }
    }

    /** As many frames as an object can make in its 512 calls. */
    private static void theFramesNumberDoesNotWrap() {
        PluggedBus bus = new PluggedBus();
        bus.plug(0, Buses.KEYS, 7, 1);
        int sum = 0;
        for (int i = 0; i < 510; i++) {
            sum += bus.run(40);
        }
        check.due("enumeration, then each seventh of 20400 frames but the first", sum, 6 + (510 * 40 - 1) / 7);
        check.due("transactions()", bus.transactions(), sum);
    }
}
