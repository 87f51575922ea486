import java.lang.reflect.Method;
import java.nio.file.Files;
import java.nio.file.Path;
import java.util.Map;
import java.util.TreeMap;
import java.util.regex.Matcher;
import java.util.regex.Pattern;

/**
 * Holds the tests of boundary cases against the document: what a test says that the document says stands there,
 * in the promise by whose number the test is named, and no words of a promise are left without a test.
 */
final class EdgesCoverTest {
    private static final Path DOCUMENT = Path.of("../shared/DOC.md");
    private static final Class<?>[] TESTS = {EdgesTermsTest.class, EdgesRowsTest.class, EdgesShedsTest.class,
        EdgesDeedsTest.class, EdgesLikelyTest.class, EdgesLooksTest.class, EdgesWhoTest.class, EdgesToldTest.class};
    private static final Pattern NAME = Pattern.compile("(terms|promise(\\d\\d))\\d?_\\w+");
    private static int wrong = 0;

    public static void main(String[] args) throws Exception {
        if (!Files.exists(DOCUMENT)) {
            System.out.println("there is no " + DOCUMENT + " here: nothing to hold the tests against");
            return;
        }
        Map<Integer, StringBuilder> sections = sections();
        must(sections.size() == 46, "Terms and 45 promises were looked for: " + sections.keySet());
        Map<Integer, String> left = new TreeMap<>();
        sections.forEach((number, text) -> left.put(number, text.toString()));
        int tests = 0;
        for (Class<?> of : TESTS) {
            for (Method test : Edge.testsOf(of)) {
                tests++;
                hold(test, sections, left);
            }
        }
        left.forEach((number, text) -> must(!text.matches("(?s).*\\w.*"), "no test holds to this of "
                + (number == 0 ? "Terms" : "promise " + number) + ": " + text.replaceAll("[ ~]+", " ")));
        System.out.println(tests + " tests of boundary cases are held against the document, " + wrong + " faults");
        if (wrong != 0) {
            System.exit(1);
        }
    }

    private static void must(boolean holds, String what) {
        if (!holds) {
            wrong++;
            System.out.println(what);
        }
    }

    /** What the document says in "Terms" (0) and in each promise, on one line. */
    private static Map<Integer, StringBuilder> sections() throws Exception {
        Map<Integer, StringBuilder> all = new TreeMap<>();
        StringBuilder open = new StringBuilder();
        for (String line : Files.readAllLines(DOCUMENT)) {
            Matcher promise = Pattern.compile("## Promise (\\d+): .*").matcher(line);
            if (line.startsWith("## ")) {
                open = new StringBuilder();
                if (promise.matches() || line.equals("## Terms")) {
                    all.put(promise.matches() ? Integer.parseInt(promise.group(1)) : 0, open);
                }
            } else {
                open.append(said(line)).append(' ');
            }
        }
        all.forEach((number, text) -> text.replace(0, text.length(), text.toString().replaceAll(" +", " ")));
        return all;
    }

    /** A line without what only heads it: the face of a call, the name of a group of calls. */
    private static String said(String line) {
        return line.replaceAll("^`[^`]*`: ", "").replaceAll("^```.*", "")
            .replaceAll("^Ahead of the calls .* the interface says: ---- \\d [a-z, ]+\\.?", "");
    }

    private static void hold(Method test, Map<Integer, StringBuilder> sections, Map<Integer, String> left) {
        Matcher name = NAME.matcher(test.getName());
        if (!name.matches()) {
            must(false, "named by no promise: " + test.getName());
            return;
        }
        int number = name.group(2) == null ? 0 : Integer.parseInt(name.group(2));
        for (String words : test.getAnnotation(Says.class).value()) {
            int at = sections.getOrDefault(number, new StringBuilder()).indexOf(words);
            must(at >= 0, test.getName() + " holds to what is not said there: " + words);
            if (at >= 0) {
                String rest = left.get(number);
                left.put(number, rest.substring(0,
                        at) + "~".repeat(words.length()) + rest.substring(at + words.length()));
            }
        }
    }
}
