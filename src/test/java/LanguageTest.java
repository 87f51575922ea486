import java.lang.reflect.Field;
import java.lang.reflect.Method;
import java.lang.reflect.Modifier;
import java.nio.file.Files;
import java.nio.file.Path;
import java.util.ArrayList;
import java.util.HashSet;
import java.util.List;
import java.util.Map;
import java.util.Set;
import java.util.TreeMap;
import java.util.TreeSet;
import java.util.regex.Matcher;
import java.util.regex.Pattern;

/** The face of the document, and the rules of LANGUAGE.md that can be looked up in the file. */
final class LanguageTest {
    private static final Path SOURCE = Path.of("src/main/java/TurnedLock.java");
    private static final Path DOCUMENT = Path.of("../shared/DOC.md");
    private static final String FACE = "row(II)I lay(III)I at(II)I tear(I)I copy(IIIII)I mean(I)I text(II)I "
        + "put(III)I fault(I)I shed(I)I person(II)I mark(II)I flicks(II)I look(II)I vain(I)I undo(I)I keep(I)I "
        + "on(I)I likely(I)I best()I wheel(II)I certain()I order(II)I tries()I within(I)I worth(I)I whose()I "
        + "seen(II)I sights(I)I fits(I)I chance(I)I read(I)I who(II)I ways(III)I apart(II)I near(II)I lots(II)I "
        + "asked()I upper()J lower()J count(I)I finding()I findings(I)I digest()J";
    private static int wrong = 0;

    public static void main(String[] args) throws Exception {
        face();
        faceAsWritten();
        constants();
        classes();
        words();
        depths(methods());
        System.out.println(wrong + " rules broken");
        if (wrong != 0) {
            System.exit(1);
        }
    }

    private static void must(boolean holds, String rule) {
        if (!holds) {
            wrong++;
            System.out.println("broken: " + rule);
        }
    }

    private static String shape(Method m) {
        StringBuilder s = new StringBuilder(m.getName()).append('(');
        for (Class<?> c : m.getParameterTypes()) {
            s.append(c.descriptorString());
        }
        return s.append(')').append(m.getReturnType().descriptorString()).toString();
    }

    private static void face() {
        Set<String> open = new TreeSet<>();
        for (Method m : TurnedLock.class.getDeclaredMethods()) {
            if (Modifier.isPublic(m.getModifiers())) {
                open.add(shape(m));
            } else {
                must(Modifier.isPrivate(m.getModifiers()) || m.isSynthetic(), "1: private: " + m);
            }
        }
        must(open.equals(new TreeSet<>(List.of(FACE.split(" ")))), "1: the face: " + open);
        must(TurnedLock.class.getDeclaredConstructors().length == 1, "1: one constructor");
        must(Modifier.isFinal(TurnedLock.class.getModifiers()), "1: final");
    }

    /** Every line of the document's face stands in the file, the names of what is told too. */
    private static void faceAsWritten() throws Exception {
        if (!Files.exists(DOCUMENT)) {
            System.out.println("there is no " + DOCUMENT + " here: nothing to hold the face against");
            return;
        }
        Set<String> written = new HashSet<>();
        Files.readAllLines(SOURCE).forEach(line -> written.add(line.trim()));
        String document = Files.readString(DOCUMENT);
        int from = document.indexOf("```java", Math.max(0, document.indexOf("## The public face")));
        int to = document.indexOf("```", from + 3);
        must(from >= 0 && to > from, "1: the document's face was not found");
        int many = 0;
        for (String line : document.substring(Math.max(0, from), Math.max(0, to)).split("\n")) {
            String due = line.trim().replaceAll("\\);$", ") {");
            if (due.startsWith("public ")) {
                many++;
                must(written.contains(due), "1: the face as the document writes it: " + due);
            }
        }
        must(many == FACE.split(" ").length + 3, "1: lines of the document's face: " + many);
    }

    private static void constants() throws Exception {
        Set<String> open = new TreeSet<>();
        for (Field f : TurnedLock.class.getDeclaredFields()) {
            if (Modifier.isPublic(f.getModifiers())) {
                open.add(f.getName() + f.getInt(null));
            } else {
                must(Modifier.isPrivate(f.getModifiers()), "1: private: " + f);
            }
        }
        must(open.equals(new TreeSet<>(List.of("BAD-1", "FULL-2", "FINDING-3", "STATE-4", "SPENT-6", "NONE-9"))),
                "1: the constants: " + open);
    }

    private static void classes() {
        Set<String> names = new HashSet<>();
        for (String shape : FACE.split(" ")) {
            names.add(shape.substring(0, shape.indexOf('(')));
        }
        List<Class<?>> all = new ArrayList<>(List.of(TurnedLock.class.getDeclaredClasses()));
        must(all.size() <= 11, "11: twelve classes");
        all.forEach(c -> must(Modifier.isStatic(c.getModifiers()) && !Modifier.isPublic(c.getModifiers())
                && !Modifier.isProtected(c.getModifiers()), "1, 2: " + c));
        all.forEach(c -> must(c.getDeclaredClasses().length == 0, "2: no class within " + c));
        all.forEach(c -> must(List.of(c.getDeclaredMethods()).stream().noneMatch(m -> names.contains(m.getName())),
                "1: a name of the face in " + c));
        all.add(TurnedLock.class);
        for (Class<?> c : all) {
            int fields = 0;
            for (Field f : c.getDeclaredFields()) {
                boolean fixed = Modifier.isStatic(f.getModifiers());
                must(!fixed || Modifier.isFinal(f.getModifiers()), "5: " + f);
                fields += fixed ? 0 : 1;
            }
            must(fields <= 20, "11: fields of " + c);
            for (Method m : c.getDeclaredMethods()) {
                must(m.getParameterCount() <= 7, "11: parameters of " + m);
                must(!Modifier.isPrivate(m.getModifiers()) || !names.contains(m.getName()), "1: " + m);
            }
        }
    }

    private static String code() throws Exception {
        return Files.readString(SOURCE).replaceAll("(?s)/\\*.*?\\*/", "").replaceAll("//[^\n]*", "");
    }

    private static void words() throws Exception {
        String code = code();
        String[] none = {"throw", "throws", "try", "catch", "finally", "synchronized", "assert", "import", "package",
            "System\\.(?!arraycopy)", "Math\\.\\w*Exact", "@", "->", "::", "hashCode", "toString", "equals",
            "Object", "volatile", "native", "transient", "protected", "double", "float", "var"};
        for (String word : none) {
            String at = Character.isLetter(word.charAt(0)) ? "\\b" + word + (word.endsWith(")") ? "" : "\\b") : word;
            must(!Pattern.compile(at).matcher(code).find(), "4, 6: " + word);
        }
        must(code.chars().allMatch(c -> c < 128), "4: signs");
        for (String line : Files.readAllLines(SOURCE)) {
            must(line.length() <= 120, "a long line: " + line);
        }
    }

    /** What each name of a method or constructor calls, by name: more than is called, if names are alike. */
    private static Map<String, Set<String>> methods() throws Exception {
        List<String> lines = List.of(code().split("\n"));
        Pattern head = Pattern.compile("^( {4}| {8})(?:[\\w\\[\\]]+ )*(\\w+)\\([\\w\\[\\], ]*\\) \\{$");
        Map<String, Set<String>> calls = new TreeMap<>();
        int many = 0;
        for (int i = 0; i < lines.size(); i++) {
            Matcher m = head.matcher(lines.get(i));
            if (m.matches() && !lines.get(i).matches(" *(if|for|while|switch|else) .*")) {
                many++;
                int end = i;
                while (end < lines.size() && !lines.get(end).equals(m.group(1) + "}")) {
                    end++;
                }
                must(end - i < 60, "11: long: " + lines.get(i));
                Matcher call = Pattern.compile("\\b(\\w+)\\(").matcher(String.join("\n", lines.subList(i + 1, end)));
                Set<String> called = calls.computeIfAbsent(m.group(2), name -> new TreeSet<>());
                call.results().forEach(found -> called.add(found.group(1)));
            }
        }
        must(many > 120, "methods were not found: " + many);
        return calls;
    }

    private static void depths(Map<String, Set<String>> calls) {
        int most = 0;
        for (String name : calls.keySet()) {
            most = Math.max(most, depth(name, calls, new ArrayList<>()));
        }
        System.out.println("calls go " + most + " deep at most");
        must(most > 4 && most <= 8, "11: calls go so deep: " + most);
    }

    private static int depth(String name, Map<String, Set<String>> calls, List<String> open) {
        if (open.contains(name)) {
            must(false, "8: it calls itself: " + open + " " + name);
            return 0;
        }
        open.add(name);
        int below = 0;
        for (String called : calls.get(name)) {
            below = Math.max(below, calls.containsKey(called) ? depth(called, calls, open) : 0);
        }
        open.remove(open.size() - 1);
        return below + 1;
    }
}
