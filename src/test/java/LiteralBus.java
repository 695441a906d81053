import java.util.ArrayDeque;
import java.util.ArrayList;
import java.util.Deque;
import java.util.HashMap;
import java.util.List;
import java.util.Map;

/**
 * The document's words, sentence by sentence, as a second program that shares nothing with the first: its devices and
 * orders are objects that come and go, and what is lost is looked up by the transaction's number. SideBySideTest holds
 * the two against each other.
 */
final class LiteralBus {
    /** A packet: a COMMAND is the order itself, all others are numbers. */
    private static final class Packet {
        Order command;
        int number;
        boolean[] changed = new boolean[2];
        boolean[] full = new boolean[2];
    }

    private static final class Device {
        int kind;
        int a;
        int b;
        int[] blocks = new int[0];
        Deque<Integer> codes = new ArrayDeque<>();
        int address;
        List<Integer> listens = new ArrayList<>(List.of(0));
        boolean configured;
        int inToggle;
        int outToggle;
        int busy;
        Packet held;
        /** Null when IDLE. */
        Order work;
        int packetsDone;
    }

    private static final class Order {
        int port;
        boolean writes;
        int block;
        int count;
        int value;
        int state;
        int step;
        List<Integer> got = new ArrayList<>();
    }

    private static final class Port {
        Device device;
        boolean open;
        boolean changed;
        int view;
        int address;
        int inToggle;
        int outToggle;
        int faults;
        int request;
        int kind;
        int blocks;
        int interval;
        int cost;
    }

    private enum Outcome { FAULT, REFUSAL, OLD, FINE }

    private final Port[] ports = new Port[6];
    private final List<Order> orders = new ArrayList<>();
    private final List<Integer> keys = new ArrayList<>();
    private final Map<Integer, Integer> lost = new HashMap<>();
    private int transactions = 0;
    private int frame = 0;
    private int served = 5;
    private Packet came;

    LiteralBus() {
        for (int p = 0; p < 6; p++) {
            ports[p] = new Port();
        }
    }

    // The calls.

    boolean plug(int port, int kind, int a, int b) {
        if (port < 0 || port > 5 || port >= 2 && !hasHub(hubOf(port)) || ports[port].device != null) {
            return false;
        }
        boolean disk = kind == 1 && 1 <= a && a <= 8 && 0 <= b && b <= 3;
        boolean keyboard = kind == 2 && 1 <= a && a <= 8 && 1 <= b && b <= 60;
        boolean hub = kind == 3 && a == 0 && b == 0;
        if (!disk && !keyboard && !hub) {
            return false;
        }
        Device device = new Device();
        device.kind = kind;
        device.a = a;
        device.b = b;
        if (disk) {
            device.blocks = new int[a];
        }
        ports[port].device = device;
        ports[port].open = false;
        mark(port);
        return true;
    }

    boolean unplug(int port) {
        if (port < 0 || port > 5 || ports[port].device == null) {
            return false;
        }
        if (port < 2 && hasHub(port)) {
            for (int p : portsOf(port)) {
                ports[p].device = null;
                ports[p].open = false;
                ports[p].changed = false;
            }
        }
        ports[port].device = null;
        ports[port].open = false;
        mark(port);
        return true;
    }

    boolean press(int port, int code) {
        if (port < 0 || port > 5 || code < 0 || code > 255) {
            return false;
        }
        Device device = ports[port].device;
        if (device == null || device.kind != 2 || device.codes.size() == 4) {
            return false;
        }
        device.codes.addLast(code);
        return true;
    }

    boolean spoil(int k, int part) {
        if (k < 1 || k > 40 || part < 0 || part > 3) {
            return false;
        }
        lost.put(transactions + k, part);
        return true;
    }

    int read(int port, int block, int count) {
        return give(port, block, count, false, 0);
    }

    int write(int port, int block, int count, int value) {
        return give(port, block, count, true, value);
    }

    private int give(int port, int block, int count, boolean writes, int value) {
        if (port < 0 || port > 5 || block < 0 || block > 7 || count < 1 || count > 4 || orders.size() == 16) {
            return -1;
        }
        if (ports[port].view != 3 || ports[port].kind != 1) {
            return -1;
        }
        Order order = new Order();
        order.port = port;
        order.block = block;
        order.count = count;
        order.writes = writes;
        order.value = value;
        for (int i = block; i < block + count; i++) {
            if (i >= ports[port].blocks) {
                order.state = 4;
            }
        }
        orders.add(order);
        return orders.size() - 1;
    }

    int run(int n) {
        if (n < 1 || n > 40) {
            return -1;
        }
        int before = transactions;
        for (int i = 0; i < n; i++) {
            makeFrame();
        }
        return transactions - before;
    }

    int view(int port) {
        return port < 0 || port > 5 ? -1 : ports[port].view;
    }

    int address(int port) {
        if (port < 0 || port > 5) {
            return -1;
        }
        return ports[port].view == 2 || ports[port].view == 3 ? ports[port].address : 0;
    }

    int order(int k) {
        return k < 0 || k >= orders.size() ? -1 : orders.get(k).state;
    }

    int got(int k, int i) {
        if (k < 0 || k >= orders.size()) {
            return -1;
        }
        List<Integer> got = orders.get(k).got;
        return i < 0 || i >= got.size() ? 0 : got.get(i);
    }

    int image(int port, int k) {
        if (port < 0 || port > 5 || ports[port].device == null) {
            return 0;
        }
        int[] blocks = ports[port].device.blocks;
        return k < 0 || k >= blocks.length ? 0 : blocks[k];
    }

    int keys() {
        return keys.size();
    }

    int key(int back) {
        return back < 0 || back > 7 || back >= keys.size() ? -1 : keys.get(keys.size() - 1 - back);
    }

    int load() {
        int sum = 0;
        for (Port port : ports) {
            sum += port.view == 3 && port.kind != 1 ? port.cost : 0;
        }
        return sum;
    }

    int transactions() {
        return transactions;
    }

    // Ports and changes.

    private static int hubOf(int port) {
        return port <= 3 ? 0 : 1;
    }

    private static int[] portsOf(int hub) {
        return hub == 0 ? new int[] {2, 3} : new int[] {4, 5};
    }

    private boolean hasHub(int port) {
        return ports[port].device != null && ports[port].device.kind == 3;
    }

    private void mark(int port) {
        if (port < 2 || hasHub(hubOf(port)) && ports[hubOf(port)].device.configured) {
            ports[port].changed = true;
        }
    }

    private void hear(int port, boolean full) {
        if (ports[port].view != 0) {
            detach(port);
        }
        if (full) {
            ports[port].view = 1;
        }
    }

    private void detach(int port) {
        boolean readyHub = ports[port].view == 3 && ports[port].kind == 3;
        ports[port].view = 0;
        ports[port].open = false;
        for (Order order : orders) {
            if (order.port == port && order.state == 0) {
                order.state = 3;
            }
        }
        if (readyHub) {
            for (int p : portsOf(port)) {
                detach(p);
            }
        }
    }

    private void fail(int port, int how) {
        ports[port].view = how;
        ports[port].open = false;
    }

    // A device's side.

    private Device meant(int address, int part) {
        if (part == 0) {
            return null;
        }
        for (int p = 0; p < 6; p++) {
            boolean open = ports[p].open && (p < 2 || ports[hubOf(p)].open);
            Device device = ports[p].device;
            if (open && device != null && (device.address == address || device.listens.contains(address))) {
                return device;
            }
        }
        return null;
    }

    private int portOf(Device device) {
        for (int p = 0; p < 6; p++) {
            if (ports[p].device == device) {
                return p;
            }
        }
        throw new IllegalStateException("a device without a port");
    }

    private void reset(Device device) {
        device.address = 0;
        device.configured = false;
        device.listens = new ArrayList<>(List.of(0));
        device.inToggle = 0;
        device.outToggle = 0;
        device.busy = 0;
        device.held = null;
        device.work = null;
    }

    private boolean mustTakeData(Device disk) {
        return disk.work != null && disk.work.writes && disk.packetsDone < disk.work.count;
    }

    private void take(Device disk, Packet packet) {
        if (disk.work == null && packet.command != null) {
            disk.work = packet.command;
            disk.busy = disk.b;
            disk.packetsDone = 0;
        } else if (mustTakeData(disk)) {
            disk.blocks[disk.work.block + disk.packetsDone] = packet.number;
            disk.packetsDone++;
        }
    }

    private void make(Device device) {
        if (device.kind == 2 && !device.codes.isEmpty()) {
            device.held = new Packet();
            device.held.number = device.codes.removeFirst();
        }
        if (device.kind == 3) {
            makeOfHub(device);
        }
        if (device.kind == 1 && device.work != null && !mustTakeData(device)) {
            if (device.busy != 0) {
                device.busy--;
            } else {
                makeOfDisk(device);
            }
        }
    }

    private void makeOfHub(Device hub) {
        int[] both = portsOf(portOf(hub));
        if (!ports[both[0]].changed && !ports[both[1]].changed) {
            return;
        }
        hub.held = new Packet();
        for (int i = 0; i < 2; i++) {
            hub.held.changed[i] = ports[both[i]].changed;
            hub.held.full[i] = ports[both[i]].device != null;
            ports[both[i]].changed = false;
        }
    }

    private void makeOfDisk(Device disk) {
        disk.held = new Packet();
        if (disk.packetsDone < disk.work.count) {
            disk.held.number = disk.blocks[disk.work.block + disk.packetsDone];
            disk.packetsDone++;
        } else {
            disk.work = null;
        }
    }

    // Transactions.

    private int nextLost() {
        transactions++;
        return lost.getOrDefault(transactions, 3);
    }

    private Outcome setup(int address, int request, int newAddress) {
        int part = nextLost();
        Device device = meant(address, part);
        if (device == null || part == 1) {
            return Outcome.FAULT;
        }
        device.listens = new ArrayList<>(List.of(address));
        if (request == 0) {
            device.address = newAddress;
        }
        if (request == 2) {
            device.configured = true;
            if (device.kind == 3 && portOf(device) < 2) {
                for (int p : portsOf(portOf(device))) {
                    ports[p].changed = ports[p].device != null;
                }
            }
        }
        return part == 2 ? Outcome.FAULT : Outcome.FINE;
    }

    private Outcome answer(Port port, int address, int request) {
        int part = nextLost();
        Device device = meant(address, part);
        if (device == null || part == 1) {
            return Outcome.FAULT;
        }
        if (request == 1) {
            port.kind = device.kind;
            port.blocks = device.blocks.length;
            port.interval = device.a;
            port.cost = device.kind == 3 ? 4 : device.b;
        }
        return Outcome.FINE;
    }

    private Outcome out(Port port, Packet packet) {
        int part = nextLost();
        Device disk = meant(port.address, part);
        if (disk == null || part == 1) {
            return Outcome.FAULT;
        }
        boolean refuses = false;
        if (port.outToggle == disk.outToggle) {
            if (mustTakeData(disk) && disk.busy != 0) {
                disk.busy--;
                refuses = true;
            } else {
                take(disk, packet);
                disk.outToggle = 1 - disk.outToggle;
            }
        }
        if (part == 2) {
            return Outcome.FAULT;
        }
        if (!refuses) {
            port.outToggle = 1 - port.outToggle;
        }
        return refuses ? Outcome.REFUSAL : Outcome.FINE;
    }

    private Outcome in(Port port) {
        int part = nextLost();
        Device device = meant(port.address, part);
        if (device == null) {
            return Outcome.FAULT;
        }
        if (device.held == null) {
            make(device);
        }
        if (part == 1) {
            return Outcome.FAULT;
        }
        if (device.held == null) {
            return Outcome.REFUSAL;
        }
        came = device.held;
        int sentWith = device.inToggle;
        if (part != 2) {
            device.held = null;
            device.inToggle = 1 - device.inToggle;
        }
        if (sentWith != port.inToggle) {
            return Outcome.OLD;
        }
        port.inToggle = 1 - port.inToggle;
        return Outcome.FINE;
    }

    /** Whether it was the third fault one after the other. */
    private boolean thirdFault(Port port, Outcome outcome) {
        port.faults = outcome == Outcome.FAULT ? port.faults + 1 : 0;
        return port.faults == 3;
    }

    // A frame.

    private void makeFrame() {
        int units = 100;
        for (int p = 0; p < 2; p++) {
            if (ports[p].changed) {
                ports[p].changed = false;
                hear(p, ports[p].device != null);
            }
        }
        for (int p = 0; p < 6; p++) {
            Port port = ports[p];
            if (port.view == 3 && (port.kind == 3 || port.kind == 2 && frame % port.interval == 0)) {
                units -= port.cost;
                poll(p);
            }
        }
        while (units >= 10) {
            int going = first(2);
            while (going < 0 && first(1) >= 0) {
                begin(first(1));
                going = first(2);
            }
            if (going < 0) {
                break;
            }
            enumerate(going);
            units -= 10;
        }
        while (units >= 8 && nextDisk() >= 0) {
            served = nextDisk();
            serve(served);
            units -= 8;
        }
        frame++;
    }

    private int first(int view) {
        for (int p = 0; p < 6; p++) {
            if (ports[p].view == view) {
                return p;
            }
        }
        return -1;
    }

    private void poll(int p) {
        Outcome outcome = in(ports[p]);
        if (thirdFault(ports[p], outcome)) {
            detach(p);
            fail(p, 4);
        } else if (outcome == Outcome.FINE && ports[p].kind == 2) {
            keys.add(came.number + 256 * p);
        } else if (outcome == Outcome.FINE) {
            Packet told = came;
            for (int i = 0; i < 2; i++) {
                if (told.changed[i]) {
                    hear(portsOf(p)[i], told.full[i]);
                }
            }
        }
    }

    private void begin(int p) {
        boolean[] has = new boolean[5];
        for (Port port : ports) {
            if (port.view == 2 || port.view == 3) {
                has[port.address] = true;
            }
        }
        int a = 1;
        while (a <= 4 && has[a]) {
            a++;
        }
        if (a == 5) {
            fail(p, 6);
            return;
        }
        Port port = ports[p];
        port.open = true;
        if (port.device != null) {
            reset(port.device);
        }
        port.inToggle = 0;
        port.outToggle = 0;
        port.address = a;
        port.faults = 0;
        port.request = 0;
        port.view = 2;
    }

    /** Requests 0, 2, 4 are SETUPs, and each has its IN behind it. */
    private void enumerate(int p) {
        Port port = ports[p];
        int at = port.request < 2 ? 0 : port.address;
        Outcome outcome = port.request % 2 == 0
            ? setup(at, port.request / 2, port.address) : answer(port, at, port.request / 2);
        if (thirdFault(port, outcome)) {
            fail(p, 4);
            return;
        }
        if (outcome != Outcome.FINE) {
            return;
        }
        if (port.request == 3 && port.kind == 3 && p >= 2) {
            fail(p, 5);
        } else if (port.request == 3 && port.kind != 1 && port.cost + load() > 90) {
            fail(p, 7);
        } else if (port.request == 5) {
            port.view = 3;
        } else {
            port.request++;
        }
    }

    private Order inHand(int p) {
        for (Order order : orders) {
            if (order.port == p && order.state == 0) {
                return order;
            }
        }
        return null;
    }

    private int nextDisk() {
        for (int i = 1; i <= 6; i++) {
            int p = (served + i) % 6;
            if (ports[p].view == 3 && ports[p].kind == 1 && inHand(p) != null) {
                return p;
            }
        }
        return -1;
    }

    private void serve(int p) {
        Order order = inHand(p);
        Outcome outcome;
        boolean goesOut = order.step == 0 || order.writes && order.step <= order.count;
        if (goesOut) {
            Packet packet = new Packet();
            packet.command = order.step == 0 ? order : null;
            packet.number = order.value + order.step - 1;
            outcome = out(ports[p], packet);
        } else {
            outcome = in(ports[p]);
        }
        if (thirdFault(ports[p], outcome)) {
            order.state = 2;
            detach(p);
            fail(p, 4);
        } else if (outcome == Outcome.FINE) {
            if (!goesOut && order.step <= order.count) {
                order.got.add(came.number);
            }
            order.step++;
            if (order.step == order.count + 2) {
                order.state = 1;
            }
        }
    }
}
