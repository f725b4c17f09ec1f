import java.nio.file.Files;
import java.nio.file.Path;
import java.util.regex.Matcher;
import java.util.regex.Pattern;

/** The words that LANGUAGE.md leaves out do not stand in the program. */
public final class LanguageTest {
    private static final Due DUE = new Due("LanguageTest");
    private static final String[] LEFT_OUT = {
        "\\bthrow\\b", "\\bthrows\\b", "\\btry\\b", "\\bcatch\\b", "\\bfinally\\b", "\\bsynchronized\\b", "\\bassert\\b",
        "\\bimport\\b", "\\bpackage\\b", "\\bprotected\\b", "->", "::", "@", "\\bstatic\\s*\\{", "\\bjava\\.", "\\bSystem\\b(?!\\.arraycopy)",
        "\\bDouble\\b", "\\bFloat\\b", "\\bThread\\b", "\\bObject\\b", "Exact\\b", "\\bvar\\b",
        "\\bequals\\b", "\\bhashCode\\b", "\\btoString\\b", "static final (double|float)"};
    private static final int LONGEST_METHOD = 60, MOST_PARAMETERS = 7;

    public static void main(String[] args) throws Exception {
        String whole = Files.readString(Path.of("src/main/java/DoseRacks.java"));
        String code = whole.replaceAll("(?s)/\\*.*?\\*/", "").replaceAll("//[^\n]*", "");
        for (String word : LEFT_OUT) {
            Matcher found = Pattern.compile(word).matcher(code);
            DUE.holds("without " + word, !found.find());
        }
        DUE.holds("characters of texts", whole.chars().allMatch(c -> c < 128));
        methods(code);
        DUE.end();
    }

    private static void methods(String code) {
        Matcher head = Pattern.compile("\\n( +)[^\\n;=]*\\(([^()]*)\\) \\{\\n").matcher(code);
        while (head.find()) {
            int end = code.indexOf("\n" + head.group(1) + "}", head.end() - 1);
            long lines = code.substring(head.end(), Math.max(end, head.end())).lines().count();
            String said = head.group().trim();
            DUE.holds(said + " is short", end > 0 && lines <= LONGEST_METHOD);
            DUE.holds(said + " takes few", head.group(2).split(",").length <= MOST_PARAMETERS);
        }
    }
}
