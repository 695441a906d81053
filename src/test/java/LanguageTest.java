import java.io.IOException;
import java.nio.file.Files;
import java.nio.file.Path;
import java.util.regex.Matcher;
import java.util.regex.Pattern;

/** What LANGUAGE.md leaves out and a plain look at the program's text can find. */
final class LanguageTest {
    private static final String[] OUT = {
        "\\bimport\\b", "\\bpackage\\b", "->", "::", "\\bsynchronized\\b", "\\bassert\\b", "\\bfinally\\b", "\\btry\\b",
        "\\bcatch\\b", "\\bthrow\\b", "\\bprotected\\b", "\\bnull\\b", "\\bstatic\\s*\\{", "\\bSystem\\.",
        "\\bMath\\.", "\\bequals\\b", "\\bhashCode\\b", "\\btoString\\b", "\\bvolatile\\b", "\\btransient\\b",
        "\\bnative\\b", "\\bThread\\b", "\\bwhile\\s*\\(\\s*true\\s*\\)", "for\\s*\\(\\s*;\\s*;"};
    private static final int MOST_CLASSES = 12;
    private static final int MOST_LINES = 60;

    public static void main(String[] args) throws IOException {
        Check check = new Check();
        String text = withoutComments(Files.readString(Path.of("src", "main", "java", "PluggedBus.java")));
        for (String out : OUT) {
            check.due("the text has " + out, Pattern.compile(out).matcher(text).find(), false);
        }
        check.due("characters beyond 255", text.chars().anyMatch(c -> c > 255), false);
        check.due("classes: not too many", count(text, "\\b(class|enum|interface|record)\\s+\\w") <= MOST_CLASSES, true);
        check.due("static fields that are not final", count(text, "\\bstatic\\s+(?!final\\b)\\w+(\\[\\])*\\s+\\w+\\s*[=;]"), 0);
        check.due("methods: not too long", longestMethod(text) <= MOST_LINES, true);
        check.end();
    }

    private static String withoutComments(String text) {
        return Pattern.compile("/\\*.*?\\*/", Pattern.DOTALL).matcher(text).replaceAll("").replaceAll("//[^\n]*", "");
    }

    private static int count(String text, String pattern) {
        Matcher matcher = Pattern.compile(pattern).matcher(text);
        int found = 0;
        while (matcher.find()) {
            found++;
        }
        return found;
    }

    /** By indentation: a method's head ends with "{", its end is a "}" as far in as the head. */
    private static int longestMethod(String text) {
        Matcher matcher = Pattern.compile("\n( {4}| {8})\\S[^\n]*\\)\\s*\\{\n(.*?)\n\\1\\}", Pattern.DOTALL).matcher(text);
        int longest = 0;
        while (matcher.find()) {
            longest = Math.max(longest, matcher.group(2).split("\n").length);
        }
        return longest;
    }
}
