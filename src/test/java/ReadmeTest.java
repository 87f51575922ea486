import java.io.File;
import java.io.IOException;
import java.lang.reflect.Method;
import java.lang.reflect.Modifier;
import java.net.URL;
import java.net.URLClassLoader;
import java.nio.file.Files;
import java.nio.file.Path;
import java.util.ArrayList;
import java.util.Comparator;
import java.util.List;
import java.util.Set;
import java.util.TreeSet;
import java.util.regex.Matcher;
import java.util.regex.Pattern;
import java.util.stream.Stream;
import javax.tools.ToolProvider;

/**
 * What README.md shows. Its Java goes into one class, Shown, in which each line
 *
 * <pre>
 *   lock.best();        // 64; asked() 3: words
 *   lock.likely(99);    // 1; upper() 1, lower() 2: words
 * </pre>
 *
 * becomes a call whose answer is looked at; the rest is compiled as it stands.
 */
final class ReadmeTest {
    private static final Path README = Path.of("README.md");
    private static final Path TESTS = Path.of("src/test/java");
    private static final String NUMBER = "(-?\\d+|[A-Z]+)";
    private static final Pattern SHOWN = Pattern.compile("lock\\.(\\w+)\\((.*)\\); *// " + NUMBER
            + "(?:; asked\\(\\) " + NUMBER + ")?"
            + "(?:; upper\\(\\) " + NUMBER + ", lower\\(\\) " + NUMBER + ")?(?:: .+)?");
    private static final String HEAD = String.join("\n", "public final class Shown {",
            "    private static final int BAD = TurnedLock.BAD, FULL = TurnedLock.FULL, STATE = TurnedLock.STATE,",
            "        FINDING = TurnedLock.FINDING, NONE = TurnedLock.NONE;",
            "    private static int wrong = 0;",
            "    private static void due(String call, long got, long due) {",
            "        if (got != due) {",
            "            wrong++;",
            "            System.out.println(call + \" answered \" + got + \", README.md tells \" + due);",
            "        }",
            "    }", "");
    private static int wrong = 0;

    private final List<String> members = new ArrayList<>();
    private final List<List<String>> runs = new ArrayList<>();
    private final Set<String> shown = new TreeSet<>();
    private int answers = 0;

    public static void main(String[] args) throws Exception {
        ReadmeTest readme = new ReadmeTest();
        readme.read(Files.readAllLines(README));
        readme.tellsEveryCall();
        tellsEveryTest();
        must(wrong == 0 && runOf(readme.source()) == 0, "what is shown does not hold");
        System.out.println(readme.answers + " answers that README.md tells were asked for, " + wrong + " faults");
        if (wrong != 0) {
            System.exit(1);
        }
    }

    private static void must(boolean holds, String what) {
        if (!holds) {
            wrong++;
            System.out.println("README.md: " + what);
        }
    }

    // ---- what is shown

    private void read(List<String> lines) {
        boolean open = false;
        List<String> block = new ArrayList<>();
        for (int i = 0; i < lines.size(); i++) {
            String line = lines.get(i);
            if (open && line.equals("```")) {
                take(block);
                open = false;
            } else if (open) {
                block.add(line);
            } else if (line.equals("```java")) {
                block = new ArrayList<>();
                open = true;
            } else {
                must(!line.contains("lock."), "a call in no block, line " + (i + 1));
            }
        }
        must(!open, "the last block has no end");
    }

    /** A block is a run of calls on a new object, or a method that stands for itself. */
    private void take(List<String> block) {
        if (!block.isEmpty() && block.get(0).equals("TurnedLock lock = new TurnedLock();")) {
            List<String> run = new ArrayList<>();
            block.forEach(line -> run.add(line.contains("lock.") ? asking(line) : line));
            runs.add(run);
        } else {
            members.addAll(block);
        }
    }

    private String asking(String line) {
        Matcher m = SHOWN.matcher(line);
        if (!m.matches()) {
            must(false, "a call without what is due: " + line);
            return "";
        }
        shown.add(m.group(1));
        String call = m.group(1) + "(" + m.group(2) + ")";
        return due(call, "lock." + call, m.group(3))
            + due(call + ", asked()", "lock.asked()", m.group(4))
            + due(call + ", upper()", "lock.upper()", m.group(5))
            + due(call + ", lower()", "lock.lower()", m.group(6));
    }

    private String due(String name, String asking, String number) {
        if (number == null) {
            return "";
        }
        answers++;
        String constant = number.matches("-?\\d+") ? number + "L" : number;
        return "due(\"" + name + "\", " + asking + ", " + constant + "); ";
    }

    private String source() {
        StringBuilder all = new StringBuilder(HEAD);
        members.forEach(line -> all.append("    ").append(line).append('\n'));
        StringBuilder calls = new StringBuilder();
        for (int i = 0; i < runs.size(); i++) {
            all.append("    private static void run").append(i).append("() {\n");
            runs.get(i).forEach(line -> all.append("        ").append(line).append('\n'));
            all.append("    }\n");
            calls.append("run").append(i).append("(); ");
        }
        return all + "    public static int failing() {\n        " + calls
            + "\n        return wrong + Edge.failing(Shown.class);\n    }\n}\n";
    }

    // ---- what is left out

    private void tellsEveryCall() {
        for (Method m : TurnedLock.class.getDeclaredMethods()) {
            must(!Modifier.isPublic(m.getModifiers()) || shown.contains(m.getName()), "does not show " + m.getName());
        }
    }

    private static void tellsEveryTest() throws IOException {
        Set<String> told = new TreeSet<>();
        for (String line : Files.readAllLines(README)) {
            if (line.matches("\\| \\w+Test\\b.*")) {
                told.addAll(List.of(line.split(" \\| ")[0].substring(2).split(", ")));
            }
        }
        Set<String> there = new TreeSet<>();
        try (Stream<Path> files = Files.list(TESTS)) {
            files.map(file -> file.getFileName().toString()).filter(name -> name.endsWith("Test.java"))
                .forEach(name -> there.add(name.replace(".java", "")));
        }
        must(told.equals(there), "tells of the tests " + told + ", there are " + there);
    }

    // ---- running it

    private static int runOf(String source) throws Exception {
        Path folder = Files.createTempDirectory("shown");
        try {
            Path file = Files.writeString(folder.resolve("Shown.java"), source);
            String classes = System.getProperty("java.class.path");
            int compiled = ToolProvider.getSystemJavaCompiler().run(null, null, null, "-Xlint:all", "-Werror",
                    "-cp", classes, "-d", folder.toString(), file.toString());
            return compiled != 0 ? 1 : failingIn(folder, classes);
        } finally {
            try (Stream<Path> files = Files.walk(folder)) {
                files.sorted(Comparator.reverseOrder()).map(Path::toFile).forEach(File::delete);
            }
        }
    }

    /** One loader has all the classes: a class of two loaders would not see what is not public. */
    private static int failingIn(Path folder, String classes) throws Exception {
        List<URL> all = new ArrayList<>(List.of(folder.toUri().toURL()));
        for (String path : classes.split(File.pathSeparator)) {
            all.add(Path.of(path).toUri().toURL());
        }
        URL[] places = all.toArray(new URL[0]);
        try (URLClassLoader loader = new URLClassLoader(places, ClassLoader.getPlatformClassLoader())) {
            return (Integer) loader.loadClass("Shown").getMethod("failing").invoke(null);
        }
    }
}
