import com.sun.management.ThreadMXBean;
import java.lang.management.ManagementFactory;

/** Calls make no objects: all room that an object needs is made with it. */
final class RoomTest {
    private static final int OBJECTS = 50;
    private static final int CALLS = 512;
    /** Far above what the Java machine itself makes now and then, far below one object for each call. */
    private static final long NOISE = 64 * 1024;

    public static void main(String[] args) {
        Check check = new Check();
        ThreadMXBean threads = (ThreadMXBean) ManagementFactory.getThreadMXBean();
        long self = Thread.currentThread().getId();
        PluggedBus[] buses = new PluggedBus[OBJECTS];
        threads.getThreadAllocatedBytes(self);
        long before = threads.getThreadAllocatedBytes(self);
        for (int i = 0; i < OBJECTS; i++) {
            buses[i] = new PluggedBus();
        }
        long made = threads.getThreadAllocatedBytes(self);
        for (int i = 0; i < OBJECTS; i++) {
            callAll(buses[i]);
        }
        long called = threads.getThreadAllocatedBytes(self);
        check.due("an object's room is under 8 KiB", (made - before) / OBJECTS < 8 * 1024, true);
        check.due("calls make nothing", called - made < NOISE, true);
        check.end();
    }

    /** Every call of the face, again and again, with numbers that are as said and others. */
    private static void callAll(PluggedBus bus) {
        for (int i = 0; i < CALLS / 17; i++) {
            int port = i * 7 % 8 - 1;
            bus.plug(port, 1 + i % 3, i % 3 == 2 ? 0 : 1 + i % 8, i % 3 == 2 ? 0 : 1 + i % 3);
            if (i % 5 == 4) {
                bus.unplug(port);
            }
            bus.press(port, i);
            bus.spoil(1 + i % 40, i % 4);
            bus.read(port, i % 8, 1 + i % 4);
            bus.write(port, i % 8, 1 + i % 4, i);
            bus.run(1 + i % 40);
            bus.view(port);
            bus.address(port);
            bus.order(i % 18 - 1);
            bus.got(i % 18 - 1, i % 5);
            bus.image(port, i % 9);
            bus.keys();
            bus.key(i % 9);
            bus.load();
            bus.transactions();
        }
    }
}
