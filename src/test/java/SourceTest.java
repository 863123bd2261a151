import java.io.IOException;
import java.nio.file.Files;
import java.nio.file.Path;
import java.util.regex.Matcher;
import java.util.regex.Pattern;

/** The rules of ../shared/LANGUAGE.md that a look at the text of the class can tell. */
public final class SourceTest {
    private static final String[] NOT_THERE = {
        "\\bpackage\\s", "\\bimport\\s", "->", "::", "\\bcatch\\b", "\\btry\\b", "\\bfinally\\b",
        "\\bsynchronized\\b", "\\bassert\\b", "\\binstanceof\\b", "\\bstatic\\s*\\{", "\\bprotected\\b",
        "Exact\\b", "\\bSystem\\b", "\\bThread\\b", "\\bRandom\\b", "\\bnull\\b", "\\bhashCode\\b",
        "[^\\x00-\\x7f]",
    };
    private static final Pattern THROWN = Pattern.compile("throw new (\\w+)\\(\"[^\"]*\"\\);");
    private static final int LONGEST_METHOD = 60;

    private static final Check CHECK = new Check();

    public static void main(String[] args) throws IOException {
        String source = Files.readString(Path.of("src/main/java/LanternPrimes.java"));
        String code = source.replaceAll("(?s)/\\*.*?\\*/", "").replaceAll("//[^\n]*", "");
        for (String each : NOT_THERE) {
            CHECK.due("a rule forbids " + each, Pattern.compile(each).matcher(code).find(), false);
        }
        throwsOnlyWithText(code);
        methodsAreShort(source);
        CHECK.end();
    }

    private static void throwsOnlyWithText(String code) {
        int told = 0;
        Matcher thrown = THROWN.matcher(code);
        while (thrown.find()) {
            told++;
        }
        CHECK.due("each throw is of a new exception with a written text", told, code.split("\\bthrow\\b", -1).length - 1);
    }

    /** A method begins and ends with a line of its indent: 4, or 8 in a class inside. */
    private static void methodsAreShort(String source) {
        String[] lines = source.split("\n");
        int begun = 0;
        for (int i = 0; i < lines.length; i++) {
            if (lines[i].matches("( {4}| {8})[a-z].*\\(.*")) {
                begun = i;
            } else if (lines[i].matches("( {4}| {8})\\}")) {
                CHECK.due("line " + (begun + 1) + " begins a long method", i - begun > LONGEST_METHOD, false);
            }
        }
    }
}
