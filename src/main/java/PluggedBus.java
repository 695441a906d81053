/**
 * A host with a bus of devices that may come and go. Every object and array is made by the
 * constructor and used again, so that a long run of calls makes nothing new.
 */
public final class PluggedBus {
    private static final int PORTS = 6;
    private static final int OWN_PORTS = 2;
    private static final int ADDRESSES = 4;
    private static final int MOST_ORDERS = 16;
    private static final int MOST_BLOCKS = 8;
    private static final int MOST_COUNT = 4;
    private static final int MOST_FRAMES = 40;
    private static final int MOST_AHEAD = 40;
    private static final int MOST_CODES = 4;
    private static final int MOST_DELAY = 3;
    private static final int MOST_INTERVAL = 8;
    private static final int MOST_COST = 60;
    private static final int CODES = 256;
    private static final int REMEMBERED_KEYS = 8;
    private static final int MOST_FAULTS = 3;

    private static final int FRAME_UNITS = 100;
    private static final int ENUMERATION_UNITS = 10;
    private static final int DISK_UNITS = 8;
    private static final int POLL_BUDGET = 90;
    private static final int HUB_COST = 4;

    private static final int EMPTY = 0;
    private static final int DISK = 1;
    private static final int KEYS = 2;
    private static final int HUB = 3;

    private static final int NOTHING = 0;
    private static final int WAITS = 1;
    private static final int GOING = 2;
    private static final int READY = 3;
    private static final int FAILED_FAULTS = 4;
    private static final int FAILED_TIER = 5;
    private static final int FAILED_ADDRESSES = 6;
    private static final int FAILED_BUDGET = 7;

    private static final int NOT_OVER = 0;
    private static final int ORDER_DONE = 1;
    private static final int ORDER_FAULTS = 2;
    private static final int ORDER_GONE = 3;
    private static final int ORDER_RANGE = 4;

    private static final int TOKEN = 0;
    private static final int DATA = 1;
    private static final int HANDSHAKE = 2;
    private static final int NO_PART = 3;

    private static final int FAULT = 0;
    private static final int REFUSED = 1;
    private static final int HAD_ALREADY = 2;
    private static final int DONE = 3;

    private static final int SETUP_ADDRESS = 0;
    private static final int SETUP_DESCRIBE = 2;
    private static final int ANSWER_DESCRIBE = 3;
    private static final int SETUP_CONFIGURE = 4;
    private static final int ANSWER_CONFIGURE = 5;

    private static final int IDLE = 0;
    private static final int READING = 1;
    private static final int WRITING = 2;

    /** A hub's packet has TOLD_BITS for each of its two ports, the smaller port's lowest. */
    private static final int TOLD_CHANGED = 1;
    private static final int TOLD_FULL = 2;
    private static final int TOLD_BITS = 2;
    private static final int TOLD_MASK = 3;

    /** A command's packet: the count below, then the block, then whether it writes. */
    private static final int COMMAND_FIELD = 7;
    private static final int COMMAND_BLOCK_SHIFT = 3;
    private static final int COMMAND_WRITES = 64;

    private final Port[] ports = new Port[PORTS];
    private final Order[] orders = new Order[MOST_ORDERS];
    private final Line line = new Line();
    private final KeyLog keyLog = new KeyLog();
    private int orderCount;
    private int frameNumber;
    private int servedLast = PORTS - 1;
    private int heardPacket;

    public PluggedBus() {
        for (int p = 0; p < PORTS; p++) {
            ports[p] = new Port();
        }
        for (int k = 0; k < MOST_ORDERS; k++) {
            orders[k] = new Order();
        }
    }

    public boolean plug(int port, int kind, int a, int b) {
        if (!isThere(port) || ports[port].isFull() || !isDevice(kind, a, b)) {
            return false;
        }
        ports[port].open = false;
        ports[port].device.becomeNew(kind, a, b);
        markChanged(port);
        return true;
    }

    public boolean unplug(int port) {
        if (!isPort(port) || !ports[port].isFull()) {
            return false;
        }
        boolean wasHub = ports[port].device.kind == HUB;
        ports[port].lose();
        if (wasHub && port < OWN_PORTS) {
            int first = firstBehind(port);
            for (int p = first; p < first + 2; p++) {
                ports[p].lose();
                ports[p].changed = false;
            }
        }
        markChanged(port);
        return true;
    }

    public boolean press(int port, int code) {
        if (!isPort(port) || code < 0 || code >= CODES) {
            return false;
        }
        return ports[port].device.addCode(code);
    }

    public boolean spoil(int k, int part) {
        if (k < 1 || k > MOST_AHEAD || part < TOKEN || part > NO_PART) {
            return false;
        }
        line.plan(k, part);
        return true;
    }

    public int read(int port, int block, int count) {
        return placeOrder(port, block, count, false, 0);
    }

    public int write(int port, int block, int count, int value) {
        return placeOrder(port, block, count, true, value);
    }

    public int run(int n) {
        if (n < 1 || n > MOST_FRAMES) {
            return -1;
        }
        int before = line.made;
        for (int i = 0; i < n; i++) {
            hearOwnPorts();
            int left = FRAME_UNITS - pollDuePorts();
            left -= enumeratePorts(left);
            serveDisks(left);
            frameNumber++;
        }
        return line.made - before;
    }

    public int view(int port) {
        return isPort(port) ? ports[port].view : -1;
    }

    public int address(int port) {
        return isPort(port) ? ports[port].address : -1;
    }

    public int order(int k) {
        return isOrder(k) ? orders[k].state : -1;
    }

    public int got(int k, int i) {
        return isOrder(k) ? orders[k].takenNumber(i) : -1;
    }

    public int image(int port, int k) {
        if (!isPort(port) || ports[port].device.kind != DISK) {
            return 0;
        }
        return ports[port].device.disk.blockAt(k);
    }

    public int keys() {
        return keyLog.count;
    }

    public int key(int back) {
        return keyLog.recent(back);
    }

    public int load() {
        return readyCost();
    }

    public int transactions() {
        return line.made;
    }

    // Which ports there are, and what may be plugged in.

    private static boolean isPort(int p) {
        return p >= 0 && p < PORTS;
    }

    private static int hubPortOf(int p) {
        return p / 2 - 1;
    }

    private static int firstBehind(int hubPort) {
        return 2 * hubPort + OWN_PORTS;
    }

    private boolean isThere(int p) {
        return isPort(p) && (p < OWN_PORTS || ports[hubPortOf(p)].device.kind == HUB);
    }

    private static boolean isDevice(int kind, int a, int b) {
        switch (kind) {
            case DISK:
                return a >= 1 && a <= MOST_BLOCKS && b >= 0 && b <= MOST_DELAY;
            case KEYS:
                return a >= 1 && a <= MOST_INTERVAL && b >= 1 && b <= MOST_COST;
            case HUB:
                return a == 0 && b == 0;
            default:
                return false;
        }
    }

    private void markChanged(int p) {
        if (p < OWN_PORTS || ports[hubPortOf(p)].device.configured) {
            ports[p].changed = true;
        }
    }

    // What the host hears of its ports.

    private void hearOwnPorts() {
        for (int p = 0; p < OWN_PORTS; p++) {
            hear(p, tellChange(p));
        }
    }

    /** Telling of a change clears its mark, whether or not the host ever gets the packet. */
    private int tellChange(int p) {
        Port port = ports[p];
        if (!port.changed) {
            return 0;
        }
        port.changed = false;
        return port.isFull() ? TOLD_CHANGED | TOLD_FULL : TOLD_CHANGED;
    }

    private void hear(int p, int told) {
        if ((told & TOLD_CHANGED) == 0) {
            return;
        }
        detach(p);
        if ((told & TOLD_FULL) != 0) {
            ports[p].view = WAITS;
        }
    }

    private void detach(int p) {
        boolean wasHub = ports[p].isReadyAs(HUB);
        release(p);
        if (wasHub && p < OWN_PORTS) {
            release(firstBehind(p));
            release(firstBehind(p) + 1);
        }
    }

    private void release(int p) {
        ports[p].leave(NOTHING);
        for (int k = 0; k < orderCount; k++) {
            if (orders[k].port == p) {
                orders[k].endUnlessOver(ORDER_GONE);
            }
        }
    }

    private void detachWithFaults(int p) {
        detach(p);
        ports[p].view = FAILED_FAULTS;
    }

    private int readyCost() {
        int sum = 0;
        for (int p = 0; p < PORTS; p++) {
            if (ports[p].isReadyAs(KEYS) || ports[p].isReadyAs(HUB)) {
                sum += ports[p].cost;
            }
        }
        return sum;
    }

    // Transactions.

    /** The port of the device that is meant, or -1. */
    private int meantPort(int address, int lost) {
        if (lost == TOKEN) {
            return -1;
        }
        for (int p = 0; p < PORTS; p++) {
            if (hears(p) && ports[p].device.listensTo(address)) {
                return p;
            }
        }
        return -1;
    }

    private boolean hears(int p) {
        return ports[p].isFull() && ports[p].open && (p < OWN_PORTS || ports[hubPortOf(p)].open);
    }

    private boolean sendSetup(Port going, int address) {
        int lost = line.next();
        int p = meantPort(address, lost);
        if (p < 0 || lost == DATA) {
            return false;
        }
        Device device = ports[p].device;
        device.setupAddress = address;
        if (going.step == SETUP_ADDRESS) {
            device.ownAddress = going.address;
        } else if (going.step == SETUP_CONFIGURE) {
            configure(p);
        }
        return lost != HANDSHAKE;
    }

    private void configure(int p) {
        ports[p].device.configured = true;
        if (ports[p].device.kind == HUB && p < OWN_PORTS) {
            int first = firstBehind(p);
            ports[first].changed = ports[first].isFull();
            ports[first + 1].changed = ports[first + 1].isFull();
        }
    }

    /** An answer's lost handshake harms nobody: the host has it, and the device holds nothing. */
    private boolean askAnswer(Port going, int address) {
        int lost = line.next();
        int p = meantPort(address, lost);
        if (p < 0 || lost == DATA) {
            return false;
        }
        if (going.step == ANSWER_DESCRIBE) {
            going.learn(ports[p].device);
        }
        return true;
    }

    private int sendOut(Port host, int packet) {
        int lost = line.next();
        int p = meantPort(host.address, lost);
        if (p < 0 || lost == DATA) {
            return FAULT;
        }
        boolean agreed = ports[p].device.agreesTo(host.outToggle, packet);
        if (lost == HANDSHAKE) {
            return FAULT;
        }
        if (!agreed) {
            return REFUSED;
        }
        host.outToggle ^= 1;
        return DONE;
    }

    /** What comes is left in heardPacket. */
    private int askIn(Port host) {
        int lost = line.next();
        int p = meantPort(host.address, lost);
        if (p < 0) {
            return FAULT;
        }
        Device device = ports[p].device;
        if (!device.holds) {
            makePacket(p);
        }
        if (lost == DATA) {
            return FAULT;
        }
        if (!device.holds) {
            return REFUSED;
        }
        heardPacket = device.packet;
        boolean isNew = device.inToggle == host.inToggle;
        if (lost != HANDSHAKE) {
            device.letGo();
        }
        if (!isNew) {
            return HAD_ALREADY;
        }
        host.inToggle ^= 1;
        return DONE;
    }

    private void makePacket(int p) {
        Device device = ports[p].device;
        if (device.kind == KEYS) {
            device.holdOldestCode();
        } else if (device.kind == DISK) {
            device.holdDiskPacket();
        } else if (p < OWN_PORTS) {
            int first = firstBehind(p);
            int told = tellChange(first) | tellChange(first + 1) << TOLD_BITS;
            if (told != 0) {
                device.hold(told);
            }
        }
    }

    // The parts of a frame.

    /** Answers the units that it costs. */
    private int pollDuePorts() {
        int spent = 0;
        for (int p = 0; p < PORTS; p++) {
            if (isDue(ports[p])) {
                spent += ports[p].cost;
                poll(p);
            }
        }
        return spent;
    }

    private boolean isDue(Port port) {
        if (port.isReadyAs(HUB)) {
            return true;
        }
        return port.isReadyAs(KEYS) && port.interval > 0 && frameNumber % port.interval == 0;
    }

    private void poll(int p) {
        Port port = ports[p];
        int outcome = askIn(port);
        if (port.countFault(outcome == FAULT)) {
            detachWithFaults(p);
        } else if (outcome == DONE && port.kind == KEYS) {
            keyLog.add(heardPacket + CODES * p);
        } else if (outcome == DONE && p < OWN_PORTS) {
            hear(firstBehind(p), heardPacket & TOLD_MASK);
            hear(firstBehind(p) + 1, heardPacket >> TOLD_BITS);
        }
    }

    /** Answers the units that it costs. */
    private int enumeratePorts(int units) {
        int spent = 0;
        for (; units - spent >= ENUMERATION_UNITS; spent += ENUMERATION_UNITS) {
            int p = goingPort();
            if (p < 0) {
                return spent;
            }
            enumerateOnce(p);
        }
        return spent;
    }

    /** The port that is GOING, begun now if none was, or -1. */
    private int goingPort() {
        for (int p = 0; p < PORTS; p++) {
            if (ports[p].view == GOING) {
                return p;
            }
        }
        for (int p = 0; p < PORTS; p++) {
            if (ports[p].view == WAITS && begin(ports[p])) {
                return p;
            }
        }
        return -1;
    }

    private boolean begin(Port port) {
        for (int a = 1; a <= ADDRESSES; a++) {
            if (!isTaken(a)) {
                port.reset(a);
                return true;
            }
        }
        port.leave(FAILED_ADDRESSES);
        return false;
    }

    private boolean isTaken(int address) {
        for (int p = 0; p < PORTS; p++) {
            if (ports[p].address == address) {
                return true;
            }
        }
        return false;
    }

    private void enumerateOnce(int p) {
        Port port = ports[p];
        int address = port.step < SETUP_DESCRIBE ? 0 : port.address;
        boolean isSetup = port.step % 2 == 0;
        boolean fine = isSetup ? sendSetup(port, address) : askAnswer(port, address);
        if (port.countFault(!fine)) {
            port.leave(FAILED_FAULTS);
        } else if (fine) {
            goOnEnumerating(p);
        }
    }

    private void goOnEnumerating(int p) {
        Port port = ports[p];
        if (port.step == ANSWER_CONFIGURE) {
            port.view = READY;
            port.step = 0;
        } else if (port.step == ANSWER_DESCRIBE && port.kind == HUB && p >= OWN_PORTS) {
            port.leave(FAILED_TIER);
        } else if (port.step == ANSWER_DESCRIBE && port.kind != DISK && port.cost + readyCost() > POLL_BUDGET) {
            port.leave(FAILED_BUDGET);
        } else {
            port.step++;
        }
    }

    private void serveDisks(int units) {
        for (int left = units; left >= DISK_UNITS; left -= DISK_UNITS) {
            int k = nextOrder();
            if (k < 0) {
                return;
            }
            serve(orders[k]);
        }
    }

    /** The order in hand of the disk whose turn it is, or -1. */
    private int nextOrder() {
        for (int i = 1; i <= PORTS; i++) {
            int p = (servedLast + i) % PORTS;
            int k = ports[p].isReadyAs(DISK) ? orderInHand(p) : -1;
            if (k >= 0) {
                return k;
            }
        }
        return -1;
    }

    private void serve(Order order) {
        int p = order.port;
        Port port = ports[p];
        servedLast = p;
        int outcome = order.goesOut(port.step) ? sendOut(port, order.packetAt(port.step)) : askIn(port);
        if (port.countFault(outcome == FAULT)) {
            order.endUnlessOver(ORDER_FAULTS);
            detachWithFaults(p);
        } else if (outcome == DONE) {
            goOnWithOrder(port, order);
        }
    }

    private void goOnWithOrder(Port port, Order order) {
        if (port.step > order.count) {
            order.endUnlessOver(ORDER_DONE);
            port.step = 0;
            return;
        }
        if (!order.goesOut(port.step)) {
            order.keep(heardPacket);
        }
        port.step++;
    }

    // Orders.

    private boolean isOrder(int k) {
        return k >= 0 && k < orderCount;
    }

    private int placeOrder(int p, int block, int count, boolean writes, int value) {
        if (!isPort(p) || block < 0 || block >= MOST_BLOCKS || count < 1 || count > MOST_COUNT) {
            return -1;
        }
        if (orderCount >= MOST_ORDERS || !ports[p].isReadyAs(DISK)) {
            return -1;
        }
        Order order = orders[orderCount];
        order.port = p;
        order.block = block;
        order.count = count;
        order.writes = writes;
        order.value = value;
        if (block + count > ports[p].blocks) {
            order.endUnlessOver(ORDER_RANGE);
        }
        return orderCount++;
    }

    /** The least order of a port that is not over, or -1. */
    private int orderInHand(int p) {
        for (int k = 0; k < orderCount; k++) {
            if (orders[k].port == p && orders[k].state == NOT_OVER) {
                return k;
            }
        }
        return -1;
    }

    /** A port with the place for its device, and what the host knows of it. */
    private static final class Port {
        final Device device = new Device();
        boolean open;
        boolean changed;

        int view = NOTHING;
        /** 0 unless GOING or READY. */
        int address;
        int inToggle;
        int outToggle;
        int faults;
        /** How far enumeration has come, and when READY how far the order in hand has. */
        int step;
        int kind;
        int blocks;
        int interval;
        int cost;

        boolean isFull() {
            return device.kind != EMPTY;
        }

        boolean isReadyAs(int someKind) {
            return view == READY && kind == someKind;
        }

        void lose() {
            device.kind = EMPTY;
            device.configured = false;
            open = false;
        }

        void leave(int newView) {
            view = newView;
            open = false;
            address = 0;
        }

        void reset(int newAddress) {
            open = true;
            device.reset();
            inToggle = 0;
            outToggle = 0;
            faults = 0;
            step = SETUP_ADDRESS;
            address = newAddress;
            view = GOING;
        }

        void learn(Device described) {
            kind = described.kind;
            blocks = described.disk.size;
            interval = described.interval;
            cost = described.cost;
        }

        /** True at the third fault one after the other. */
        boolean countFault(boolean isFault) {
            faults = isFault ? faults + 1 : 0;
            return faults >= MOST_FAULTS;
        }
    }

    /** What is plugged into a port; the same object serves every device that comes there. */
    private static final class Device {
        final Disk disk = new Disk();
        final int[] codes = new int[MOST_CODES];
        int codeCount;
        int kind = EMPTY;
        int interval;
        int cost;
        int ownAddress;
        int setupAddress;
        boolean configured;
        int inToggle;
        int outToggle;
        boolean holds;
        int packet;

        void becomeNew(int newKind, int a, int b) {
            kind = newKind;
            interval = newKind == KEYS ? a : 0;
            cost = newKind == KEYS ? b : newKind == HUB ? HUB_COST : 0;
            codeCount = 0;
            disk.becomeNew(newKind == DISK ? a : 0, newKind == DISK ? b : 0);
            reset();
        }

        void reset() {
            ownAddress = 0;
            setupAddress = 0;
            configured = false;
            inToggle = 0;
            outToggle = 0;
            holds = false;
            disk.rest();
        }

        boolean listensTo(int address) {
            return address == ownAddress || address == setupAddress;
        }

        boolean addCode(int code) {
            if (kind != KEYS || codeCount >= MOST_CODES) {
                return false;
            }
            codes[codeCount] = code;
            codeCount++;
            return true;
        }

        /** A toggle that is not its own means that it took this packet before: agreeing lets the host go on. */
        boolean agreesTo(int toggle, int sent) {
            if (toggle != outToggle) {
                return true;
            }
            if (disk.mustTakeData() && disk.busy != 0) {
                disk.busy--;
                return false;
            }
            disk.take(sent);
            outToggle ^= 1;
            return true;
        }

        void hold(int made) {
            packet = made;
            holds = true;
        }

        void letGo() {
            holds = false;
            inToggle ^= 1;
        }

        void holdOldestCode() {
            if (codeCount == 0) {
                return;
            }
            hold(codes[0]);
            codeCount--;
            for (int i = 0; i < codeCount; i++) {
                codes[i] = codes[i + 1];
            }
        }

        void holdDiskPacket() {
            if (!disk.mustMakePacket()) {
                return;
            }
            if (disk.busy != 0) {
                disk.busy--;
            } else {
                hold(disk.make());
            }
        }
    }

    /** The blocks of a DISK, and the command that it works on. */
    private static final class Disk {
        final int[] content = new int[MOST_BLOCKS];
        int size;
        int delay;
        int busy;
        int work = IDLE;
        int at;
        int left;

        void becomeNew(int newSize, int newDelay) {
            size = newSize;
            delay = newDelay;
            for (int i = 0; i < MOST_BLOCKS; i++) {
                content[i] = 0;
            }
        }

        void rest() {
            busy = 0;
            work = IDLE;
            left = 0;
        }

        int blockAt(int k) {
            return k >= 0 && k < size && k < MOST_BLOCKS ? content[k] : 0;
        }

        boolean mustTakeData() {
            return work == WRITING && left > 0;
        }

        boolean mustMakePacket() {
            return work == READING || work == WRITING && left == 0;
        }

        void take(int sent) {
            if (work == IDLE) {
                takeCommand(sent);
            } else if (mustTakeData() && at >= 0 && at < MOST_BLOCKS) {
                content[at] = sent;
                at++;
                left--;
            }
        }

        void takeCommand(int command) {
            busy = delay;
            work = (command & COMMAND_WRITES) != 0 ? WRITING : READING;
            at = command >> COMMAND_BLOCK_SHIFT & COMMAND_FIELD;
            left = command & COMMAND_FIELD;
        }

        /** The next block's number, or behind the last one the status, which says nothing more. */
        int make() {
            if (left == 0) {
                work = IDLE;
                return 0;
            }
            int number = at >= 0 && at < MOST_BLOCKS ? content[at] : 0;
            at++;
            left--;
            return number;
        }
    }

    private static final class Order {
        final int[] numbers = new int[MOST_COUNT];
        int taken;
        int port;
        int block;
        int count;
        boolean writes;
        int value;
        int state = NOT_OVER;

        /** Step 0 is the command, those up to count the blocks, the one behind them the status. */
        boolean goesOut(int step) {
            return step == 0 || writes && step <= count;
        }

        int packetAt(int step) {
            if (step > 0) {
                return value + step - 1;
            }
            return count | block << COMMAND_BLOCK_SHIFT | (writes ? COMMAND_WRITES : 0);
        }

        void keep(int number) {
            if (taken < MOST_COUNT) {
                numbers[taken] = number;
                taken++;
            }
        }

        int takenNumber(int i) {
            return i >= 0 && i < taken ? numbers[i] : 0;
        }

        void endUnlessOver(int how) {
            if (state == NOT_OVER) {
                state = how;
            }
        }
    }

    /** Counts the transactions, and knows what of the next ones is lost. */
    private static final class Line {
        /** A ring from nextAt on: 0 for nothing lost, else the part plus 1. */
        final int[] losses = new int[MOST_AHEAD];
        int nextAt;
        int made;

        void plan(int k, int part) {
            losses[(nextAt + k - 1) % MOST_AHEAD] = part == NO_PART ? 0 : part + 1;
        }

        /** The part that is lost of the transaction that is now made. */
        int next() {
            int loss = losses[nextAt];
            losses[nextAt] = 0;
            nextAt = (nextAt + 1) % MOST_AHEAD;
            made++;
            return loss == 0 ? NO_PART : loss - 1;
        }
    }

    /** The latest KEYs in a ring. */
    private static final class KeyLog {
        final int[] recentKeys = new int[REMEMBERED_KEYS];
        int nextAt;
        int count;

        void add(int someKey) {
            recentKeys[nextAt] = someKey;
            nextAt = (nextAt + 1) % REMEMBERED_KEYS;
            count++;
        }

        int recent(int back) {
            if (back < 0 || back >= REMEMBERED_KEYS || back >= count) {
                return -1;
            }
            return recentKeys[(nextAt + REMEMBERED_KEYS - 1 - back) % REMEMBERED_KEYS];
        }
    }
}
