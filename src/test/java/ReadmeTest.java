import java.io.IOException;
import java.lang.reflect.InvocationTargetException;
import java.lang.reflect.Method;
import java.lang.reflect.Modifier;
import java.nio.file.Files;
import java.nio.file.Path;
import java.util.regex.Matcher;
import java.util.regex.Pattern;

/** README.md names every call with its arguments, and its example answers what it says. */
public final class ReadmeTest {
    private static final Path README = Path.of("README.md");
    private static final Path SOURCE = Path.of("src/main/java/ExactCurves.java");
    private static final Pattern FACE = Pattern.compile("    public (?:long|int) (\\w+)\\(([^)]*)\\) \\{");
    private static final Pattern EXAMPLE = Pattern.compile("x\\.(\\w+)\\(([^)]*)\\); +// (\\w+)");
    private static final Checks CHECKS = new Checks();

    public static void main(String[] args) throws IOException, ReflectiveOperationException {
        String readme = Files.readString(README);
        namesEveryCall(readme, Files.readString(SOURCE));
        for (String constant : new String[] {"NONE", "BAD", "REFUSED"}) {
            String told = "`ExactCurves." + constant + "` (" + answer(constant) + ")";
            CHECKS.holds("README.md explains " + told, readme.contains(told));
        }
        exampleAnswers(readme);
        CHECKS.end();
    }

    private static void namesEveryCall(String readme, String source) {
        Matcher calls = FACE.matcher(source);
        int found = 0;
        while (calls.find()) {
            String row = "| `" + calls.group(1) + "(" + calls.group(2).replaceAll("(?:int|long) ", "") + ")` |";
            CHECKS.holds("README.md has a row " + row, readme.contains(row));
            found++;
        }
        CHECKS.due("calls in the source", found, 27);
    }

    private static void exampleAnswers(String readme) throws ReflectiveOperationException {
        ExactCurves x = new ExactCurves();
        Matcher lines = EXAMPLE.matcher(readme);
        int found = 0;
        while (lines.find()) {
            CHECKS.due("README.md: " + lines.group(), call(x, lines.group(1), lines.group(2)), answer(lines.group(3)));
            found++;
        }
        CHECKS.holds("README.md has an example, not " + found + " calls", found > 20);
        CHECKS.due("lines of the example", found, readme.split("\nx\\.", -1).length - 1);
    }

    private static long answer(String text) throws ReflectiveOperationException {
        boolean isNumber = Character.isDigit(text.charAt(0));
        return isNumber ? Long.parseLong(text) : ExactCurves.class.getField(text).getInt(null);
    }

    private static long call(ExactCurves x, String name, String text)
            throws IllegalAccessException, InvocationTargetException {
        String[] words = text.isEmpty() ? new String[0] : text.split(", ");
        for (Method method : ExactCurves.class.getDeclaredMethods()) {
            if (method.getName().equals(name) && Modifier.isPublic(method.getModifiers())) {
                Object[] values = new Object[words.length];
                for (int i = 0; i < words.length; i++) {
                    boolean isInt = method.getParameterTypes()[i] == int.class;
                    values[i] = isInt ? (Object) Integer.valueOf(words[i]) : (Object) Long.valueOf(words[i]);
                }
                return ((Number) method.invoke(x, values)).longValue();
            }
        }
        throw new IllegalStateException("no call " + name);
    }
}
