import java.io.IOException;
import java.lang.reflect.Field;
import java.lang.reflect.Method;
import java.lang.reflect.Modifier;
import java.nio.file.Files;
import java.nio.file.Path;
import java.util.regex.Matcher;
import java.util.regex.Pattern;

/** What LANGUAGE.md leaves out and a plain look at the program's text can find. */
final class LanguageTest {
    private static final String[] OUT = {
        "\\bimport\\b", "\\bpackage\\b", "->", "::", "\\bsynchronized\\b", "\\bassert\\b", "\\bfinally\\b", "\\btry\\b",
        "\\bcatch\\b", "\\bthrow\\b", "\\bprotected\\b", "\\bnull\\b", "\\bstatic\\s*\\{", "\\bSystem\\.",
        "\\bMath\\.", "\\bequals\\b", "\\bhashCode\\b", "\\btoString\\b", "\\bvolatile\\b", "\\btransient\\b",
        "\\bnative\\b", "\\bThread\\b", "\\bwhile\\s*\\(\\s*true\\s*\\)", "for\\s*\\(\\s*;\\s*;"};
    private static final String CLASS = "\\b(class|enum|interface|record)\\s+\\w";
    private static final String STATIC_FIELD_NOT_FINAL = "\\bstatic\\s+(?!final\\b)\\w+(\\[\\])*\\s+\\w+\\s*[=;]";
    private static final int MOST_CLASSES = 12;
    private static final int MOST_LINES = 60;
    private static final int MOST_FIELDS = 20;
    private static final int MOST_PARAMETERS = 7;

    private static final Check check = new Check();

    public static void main(String[] args) throws IOException {
        String text = withoutComments(Files.readString(Path.of("src", "main", "java", "PluggedBus.java")));
        for (String out : OUT) {
            check.due("the text has " + out, Pattern.compile(out).matcher(text).find(), false);
        }
        check.due("characters beyond 255", text.chars().anyMatch(c -> c > 255), false);
        check.due("classes: not too many", count(text, CLASS) <= MOST_CLASSES, true);
        check.due("static fields that are not final", count(text, STATIC_FIELD_NOT_FINAL), 0);
        check.due("methods: not too long", longestMethod(text) <= MOST_LINES, true);
        staysSmall(PluggedBus.class);
        for (Class<?> inside : PluggedBus.class.getDeclaredClasses()) {
            staysSmall(inside);
        }
        check.end();
    }

    private static void staysSmall(Class<?> some) {
        int fields = 0;
        for (Field field : some.getDeclaredFields()) {
            fields += Modifier.isStatic(field.getModifiers()) ? 0 : 1;
        }
        check.due(some + ": fields, not too many", fields <= MOST_FIELDS, true);
        for (Method method : some.getDeclaredMethods()) {
            check.due(method + ": parameters, not too many", method.getParameterCount() <= MOST_PARAMETERS, true);
        }
    }

    private static String withoutComments(String text) {
        return Pattern.compile("/\\*.*?\\*/", Pattern.DOTALL).matcher(text).replaceAll("").replaceAll("//[^\n]*", "");
    }

    private static int count(String text, String pattern) {
        Matcher matcher = Pattern.compile(pattern).matcher(text);
        int found = 0;
        while (matcher.find()) {
            found++;
        }
        return found;
    }

    /** By indentation: a method's head ends with "{", its end is a "}" as far in as the head. */
    private static int longestMethod(String text) {
        String method = "\n( {4}| {8})\\S[^\n]*\\)\\s*\\{\n(.*?)\n\\1\\}";
        Matcher matcher = Pattern.compile(method, Pattern.DOTALL).matcher(text);
        int longest = 0;
        while (matcher.find()) {
            longest = Math.max(longest, matcher.group(2).split("\n").length);
        }
        return longest;
    }
}
