import java.nio.file.Files;
import java.nio.file.Path;
import java.util.Set;
import java.util.TreeSet;
import java.util.regex.Matcher;
import java.util.regex.Pattern;

/** The words that LANGUAGE.md leaves out do not stand in the program. */
public final class LanguageTest {
    private static final Due DUE = new Due("LanguageTest");
    private static final String[] LEFT_OUT = {
        "\\bthrow\\b", "\\bthrows\\b", "\\btry\\b", "\\bcatch\\b", "\\bfinally\\b", "\\bsynchronized\\b", "\\bassert\\b",
        "\\bimport\\b", "\\bpackage\\b", "\\bprotected\\b", "->", "::", "@", "\\bstatic\\s*\\{", "\\bjava\\.", "\\bSystem\\b(?!\\.arraycopy)",
        "\\bDouble\\b", "\\bFloat\\b", "\\bThread\\b", "\\bObject\\b", "Exact\\b", "\\bvar\\b",
        "\\bequals\\b", "\\bhashCode\\b", "\\btoString\\b", "static final (double|float)", "\""};
    private static final Set<String> LIBRARY = Set.of("Math.min", "Math.max", "Long.MIN_VALUE");
    private static final int LONGEST_METHOD = 60, MOST_PARAMETERS = 7;

    public static void main(String[] args) throws Exception {
        String whole = Files.readString(Path.of("src/main/java/DoseRacks.java"));
        String code = whole.replaceAll("(?s)/\\*.*?\\*/", "").replaceAll("//[^\n]*", "");
        for (String word : LEFT_OUT) {
            Matcher found = Pattern.compile(word).matcher(code);
            DUE.holds("without " + word, !found.find());
        }
        DUE.holds("characters of texts", whole.chars().allMatch(c -> c < 128));
        library(code);
        divisors(code);
        loops(code);
        methods(code);
        DUE.end();
    }

    /** Rule 4: what stands ahead of a dot is the program's own, or one of these few. */
    private static void library(String code) {
        Set<String> own = new TreeSet<>();
        Matcher inside = Pattern.compile("\\bclass (\\w+)").matcher(code);
        while (inside.find()) {
            own.add(inside.group(1));
        }
        Set<String> used = new TreeSet<>();
        Matcher member = Pattern.compile("\\b([A-Z][a-z]\\w*)\\s*\\.\\s*(\\w+)").matcher(code);
        while (member.find()) {
            if (!own.contains(member.group(1))) {
                used.add(member.group(1) + "." + member.group(2));
            }
        }
        DUE.holds("of the library: " + used, LIBRARY.containsAll(used));
    }

    /** Rules 3 and 7: no divisor that may be 0, no remainder, and so no double that is no number. */
    private static void divisors(String code) {
        Matcher division = Pattern.compile("[/%]\\s*([^;)\\s]+)").matcher(code);
        while (division.find()) {
            DUE.holds(division.group() + " is by two", division.group().equals("/ 2.0"));
        }
    }

    /** Rule 9: a counter that goes up to a bound. */
    private static void loops(String code) {
        DUE.holds("no other loops", !Pattern.compile("\\b(while|do)\\b").matcher(code).find());
        Matcher head = Pattern.compile("\\bfor \\(([^{]*)\\) \\{").matcher(code);
        Pattern counted = Pattern.compile("int (\\w+) = 0; \\1 < [\\w.]+( && [^;|]+)?; \\1\\+\\+");
        while (head.find()) {
            DUE.holds("an end of " + head.group(), counted.matcher(head.group(1)).matches());
        }
    }

    private static void methods(String code) {
        Matcher head = Pattern.compile("\\n( +)[^\\n;=]*\\(([^()]*)\\) \\{\\n").matcher(code);
        while (head.find()) {
            int end = code.indexOf("\n" + head.group(1) + "}", head.end() - 1);
            long lines = code.substring(head.end(), Math.max(end, head.end())).lines().count();
            String said = head.group().trim();
            DUE.holds(said + " is short", end > 0 && lines <= LONGEST_METHOD);
            DUE.holds(said + " takes few", head.group(2).split(",").length <= MOST_PARAMETERS);
        }
    }
}
