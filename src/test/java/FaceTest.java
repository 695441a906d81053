import java.lang.reflect.Constructor;
import java.lang.reflect.Field;
import java.lang.reflect.Member;
import java.lang.reflect.Method;
import java.lang.reflect.Modifier;
import java.util.Set;
import java.util.TreeSet;

/** The public face of the document, and nothing beside it. */
final class FaceTest {
    private static final Check check = new Check();

    private static final Set<String> FACE = Set.of(
        "boolean plug(int, int, int, int)", "boolean unplug(int)", "boolean press(int, int)",
        "boolean spoil(int, int)", "int read(int, int, int)", "int write(int, int, int, int)", "int run(int)",
        "int view(int)", "int address(int)", "int order(int)", "int got(int, int)", "int image(int, int)",
        "int keys()", "int key(int)", "int load()", "int transactions()");

    public static void main(String[] args) {
        int modifiers = PluggedBus.class.getModifiers();
        check.due("public", Modifier.isPublic(modifiers), true);
        check.due("final", Modifier.isFinal(modifiers), true);
        Constructor<?>[] constructors = PluggedBus.class.getDeclaredConstructors();
        check.due("constructors", constructors.length, 1);
        check.due("without parameters", constructors[0].getParameterCount(), 0);
        check.due("public constructor", Modifier.isPublic(constructors[0].getModifiers()), true);
        methodsAreTheFace();
        allElseIsPrivate();
        check.end();
    }

    private static void methodsAreTheFace() {
        Set<String> found = new TreeSet<>();
        for (Method method : PluggedBus.class.getDeclaredMethods()) {
            if (Modifier.isPublic(method.getModifiers())) {
                check.due(method.getName() + " is static", Modifier.isStatic(method.getModifiers()), false);
                found.add(signature(method));
            }
        }
        check.due("the face is " + found, found.equals(FACE), true);
    }

    private static String signature(Method method) {
        StringBuilder text = new StringBuilder();
        text.append(method.getReturnType().getSimpleName()).append(' ').append(method.getName()).append('(');
        String between = "";
        for (Class<?> type : method.getParameterTypes()) {
            text.append(between).append(type.getSimpleName());
            between = ", ";
        }
        return text.append(')').toString();
    }

    private static void allElseIsPrivate() {
        Set<String> publicNames = new TreeSet<>();
        for (String signature : FACE) {
            publicNames.add(signature.substring(signature.indexOf(' ') + 1, signature.indexOf('(')));
        }
        for (Method method : PluggedBus.class.getDeclaredMethods()) {
            if (!Modifier.isPublic(method.getModifiers())) {
                isPrivate(method);
                check.due(method.getName() + " bears a public name", publicNames.contains(method.getName()), false);
            }
        }
        for (Field field : PluggedBus.class.getDeclaredFields()) {
            isPrivate(field);
        }
        for (Class<?> inside : PluggedBus.class.getDeclaredClasses()) {
            check.due(inside.getName() + " is static", Modifier.isStatic(inside.getModifiers()), true);
            check.due(inside.getName() + " is public", Modifier.isPublic(inside.getModifiers()), false);
            for (Method method : inside.getDeclaredMethods()) {
                check.due(method + " bears a public name", publicNames.contains(method.getName()), false);
            }
        }
    }

    private static void isPrivate(Member member) {
        check.due(member.getName() + " is private", Modifier.isPrivate(member.getModifiers()), true);
    }
}
