import java.io.IOException;
import java.lang.reflect.Method;
import java.lang.reflect.Modifier;
import java.nio.file.Files;
import java.nio.file.Path;

/** README.md: its example answers what it says, and it names every call. */
final class ReadmeTest {
    public static void main(String[] args) throws IOException {
        Check check = new Check();
        example(check);
        everyCall(check, Files.readString(Path.of("README.md")));
        check.end();
    }

    private static void example(Check check) {
        PluggedBus bus = new PluggedBus();
        check.due("a disk", bus.plug(0, 1, 8, 2), true);
        check.due("a frame", bus.run(1), 6);
        check.due("READY", bus.view(0), Buses.READY);
        int write = bus.write(0, 2, 3, 100);
        int read = bus.read(0, 2, 3);
        bus.run(2);
        check.due("DONE", bus.order(write), 1);
        check.due("the second number read", bus.got(read, 1), 101);
    }

    private static void everyCall(Check check, String readme) {
        for (Method method : PluggedBus.class.getDeclaredMethods()) {
            if (Modifier.isPublic(method.getModifiers())) {
                check.due("README names " + method.getName(), readme.contains("`" + method.getName() + "("), true);
            }
        }
    }
}
