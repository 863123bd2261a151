import java.io.IOException;
import java.lang.reflect.InvocationTargetException;
import java.lang.reflect.Method;
import java.lang.reflect.Modifier;
import java.nio.file.Files;
import java.nio.file.Path;
import java.util.regex.Matcher;
import java.util.regex.Pattern;

/** README.md is true: each call of its example answers what is written behind it, and each call of the face is told of. */
public final class ReadmeTest {
    /** A line of the example: the call, and behind it the answer, or the exception that is thrown. */
    private static final Pattern LINE = Pattern.compile("code\\.(\\w+)\\(([^)]*)\\);\\s*// (-?[\\w.]+)");

    private static final Check CHECK = new Check();

    public static void main(String[] args) throws IOException, IllegalAccessException {
        String readme = Files.readString(Path.of("README.md"));
        exampleHolds(readme);
        everyCallIsTold(readme);
        CHECK.end();
    }

    private static void exampleHolds(String readme) throws IllegalAccessException {
        LanternPrimes code = new LanternPrimes();
        String example = readme.substring(readme.indexOf("```java"));
        example = example.substring(0, example.indexOf("```", 3));
        Matcher line = LINE.matcher(example);
        int calls = 0;
        while (line.find()) {
            String told = "README: " + line.group(1) + "(" + line.group(2) + ")";
            CHECK.due(told, answer(code, line.group(1), line.group(2)), line.group(3));
            calls++;
        }
        CHECK.due("README: each call of the example has its answer", calls, example.split("code\\.", -1).length - 1);
    }

    private static String answer(LanternPrimes code, String name, String arguments) throws IllegalAccessException {
        try {
            return String.valueOf(named(name).invoke(code, values(arguments)));
        } catch (InvocationTargetException e) {
            return e.getCause().getClass().getSimpleName();
        }
    }

    /** No two calls of the face have the same name. */
    private static Method named(String name) {
        for (Method one : LanternPrimes.class.getDeclaredMethods()) {
            if (one.getName().equals(name) && Modifier.isPublic(one.getModifiers())) {
                return one;
            }
        }
        throw new IllegalStateException("README tells of a call that is not there: " + name);
    }

    private static Object[] values(String arguments) {
        if (arguments.isEmpty()) {
            return new Object[0];
        }
        String[] words = arguments.split(", ");
        Object[] values = new Object[words.length];
        for (int i = 0; i < words.length; i++) {
            boolean truth = words[i].equals("true") || words[i].equals("false");
            values[i] = truth ? (Object) Boolean.valueOf(words[i]) : (Object) Integer.valueOf(words[i]);
        }
        return values;
    }

    private static void everyCallIsTold(String readme) {
        for (Method one : LanternPrimes.class.getDeclaredMethods()) {
            if (Modifier.isPublic(one.getModifiers())) {
                CHECK.due("README tells of " + one.getName(), readme.contains("`" + one.getName() + "("), true);
            }
        }
    }
}
