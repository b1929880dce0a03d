import java.io.IOException;
import java.nio.file.Files;
import java.nio.file.Path;
import java.util.List;
import java.util.Set;
import java.util.TreeSet;
import java.util.regex.Matcher;
import java.util.regex.Pattern;

/** What of ../shared/LANGUAGE.md can be seen from the text of the class. */
public final class LanguageTest {
    private static final Path SOURCE = Path.of("src/main/java/ExactCurves.java");
    private static final int MOST_LINES = 60, MOST_PARAMETERS = 7, MOST_CLASSES = 12;
    /** What the class uses of rule 4, and nothing more. */
    private static final Set<String> LIBRARY = Set.of("Math.min", "Math.max", "Long.compare", "Long.MAX_VALUE",
        "Long.MIN_VALUE");
    private static final List<String> NEVER = List.of(
        // Rules 1 and 4: no package, nothing from elsewhere.
        "\\bpackage\\b", "\\bimport\\b", "\\bjava\\.", "\\bSystem\\b", "\\bThread\\b", "@",
        // Rule 2: no lambda, no method reference.
        "->", "::",
        // Rule 6.
        "\\bthrows?\\b", "\\btry\\b", "\\bcatch\\b", "\\bfinally\\b", "\\bsynchronized\\b", "\\bassert\\b",
        "\\bhashCode\\b", "\\btoString\\b", "\\bequals\\b",
        // Rule 9: the ends of all loops stand in a for.
        "\\bwhile\\b", "for \\(;;\\)");
    private static final Checks CHECKS = new Checks();

    public static void main(String[] args) throws IOException {
        String text = Files.readString(SOURCE).replaceAll("(?s)/\\*.*?\\*/", "").replaceAll("//[^\n]*", "");
        for (String word : NEVER) {
            CHECKS.holds("the class does without " + word, !Pattern.compile(word).matcher(text).find());
        }
        usesOnlyItsLibrary(text);
        staticFieldsAreFinal(text);
        keepsMethodsShort(text);
        long classes = Pattern.compile("\\b(?:class|record|enum|interface) [A-Z]").matcher(text).results().count();
        CHECKS.holds("rule 11: few classes, not " + classes, classes > 0 && classes <= MOST_CLASSES);
        CHECKS.end();
    }

    private static void usesOnlyItsLibrary(String text) {
        Set<String> used = new TreeSet<>();
        Matcher matcher = Pattern.compile("\\b(?:Math|Long|Integer|Arrays)\\.\\w+").matcher(text);
        while (matcher.find()) {
            used.add(matcher.group());
        }
        CHECKS.holds("rule 4: only " + LIBRARY + ", not " + used, LIBRARY.containsAll(used));
    }

    private static void staticFieldsAreFinal(String text) {
        for (String line : text.split("\n")) {
            boolean isField = line.contains(" static ") && !line.contains("{") && line.contains(";");
            CHECKS.holds("rule 5: " + line.trim(), !isField || line.contains(" static final "));
        }
        CHECKS.holds("rule 5: no static block", !text.contains("static {"));
    }

    private static void keepsMethodsShort(String text) {
        Pattern head = Pattern.compile("(?m)^( +)(?:[a-z]+ )*(?:[A-Za-z\\[\\]]+ )?(\\w+)\\(([^)]*)\\) \\{$");
        Matcher heads = head.matcher(text);
        int found = 0;
        while (heads.find()) {
            if (!Set.of("if", "for", "switch").contains(heads.group(2))) {
                String body = text.substring(heads.start(), text.indexOf("\n" + heads.group(1) + "}", heads.end()));
                int lines = body.split("\n").length + 1;
                int parameters = heads.group(3).isEmpty() ? 0 : heads.group(3).split(",").length;
                CHECKS.holds("rule 11: " + heads.group(2) + " is short, not " + lines, lines <= MOST_LINES);
                CHECKS.holds("rule 11: " + heads.group(2) + " takes few", parameters <= MOST_PARAMETERS);
                found++;
            }
        }
        CHECKS.holds("the methods were found, not " + found, found > 27);
    }
}
