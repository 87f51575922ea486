import java.lang.reflect.InvocationTargetException;
import java.lang.reflect.Method;
import java.util.ArrayList;
import java.util.Arrays;
import java.util.Comparator;
import java.util.HashMap;
import java.util.List;
import java.util.Map;
import java.util.Set;
import java.util.regex.Matcher;
import java.util.regex.Pattern;

/**
 * One test of a boundary case: calls on an object, written with what is due as the document writes it.
 *
 * <pre>
 *   row(0, 40) = 40                an answer
 *   row(0, 41) = BAD               refused: nothing at all may have changed
 *   row(0, -1) = SIZE              refused by a FINDING: it is told and counted, nothing else has changed
 *   at(0, 3) = 1 asked 7           an answer, and what asked() tells then
 *   likely(2) = 1 told 1/6         an answer, and what upper(), lower() tell then
 * </pre>
 *
 * Behind every call all that the object tells is looked at: what the call has no business to change must be
 * as it was, though no test says so. (This takes more than 512 calls at times; the class has no such end.)
 */
final class Edge {
    private static final List<String> FINDINGS = List.of("", "NOTHING", "BEYOND", "UNLIKE", "NOUGHT", "SIZE");
    private static final Map<String, Integer> NAMES = Map.of("BAD", -1, "FULL", -2, "STATE", -4, "NONE", -9,
            "MIN", Integer.MIN_VALUE, "MAX", Integer.MAX_VALUE);
    private static final Set<String> REFUSALS = Set.of("BAD", "FULL", "STATE");
    private static final Set<String> ASKED = Set.of("lay", "at", "mean", "person", "best", "certain", "whose",
            "sights", "fits", "who", "apart");
    private static final Set<String> TOLD = Set.of("likely", "wheel", "tries", "within", "worth", "seen", "chance");
    private static final Set<String> CHANGING = Set.of("row", "lay", "tear", "copy", "text", "put", "shed", "flicks",
            "look", "vain", "undo", "keep", "on", "order", "lots");
    private static final Pattern STEP = Pattern.compile(
            "(\\w+)\\(([-\\w, ]*)\\) = (-?\\w+)(?: asked (-?\\w+))?(?: told (\\d+)/(\\d+))?");
    private static final Map<String, Method> CALLS = new HashMap<>();

    static {
        for (Method m : TurnedLock.class.getDeclaredMethods()) {
            CALLS.put(m.getName(), m);
        }
    }

    private final String name;
    private int steps = 0;
    private int wrong = 0;
    private TurnedLock lock = new TurnedLock();
    private Told before = new Told(lock);

    private Edge(String name) {
        this.name = name;
    }

    /** All that an object tells of itself. */
    private static final class Told {
        final long digest;
        final int asked;
        final long upper;
        final long lower;
        final int finding;
        final int[] findings = new int[6];

        Told(TurnedLock of) {
            digest = of.digest();
            asked = of.asked();
            upper = of.upper();
            lower = of.lower();
            finding = of.finding();
            for (int f = 1; f <= 5; f++) {
                findings[f] = of.findings(f);
            }
        }
    }

    // ---- making what a test needs

    /** A new object takes the place of the one that was. */
    Edge fresh() {
        lock = new TurnedLock();
        before = new Told(lock);
        return this;
    }

    /** A new object with this SHED, by TEXT 3. */
    Edge shed(String signs) {
        fresh().text(3, signs);
        check("shed(3) of " + signs, lock.shed(3), (signs.replace(" ", "").length() - 3) / 2);
        before = new Told(lock);
        return this;
    }

    Edge text(int t, String signs) {
        Check.write(lock, t, signs);
        before = new Told(lock);
        return this;
    }

    Edge row(int r, int... numbers) {
        Check.lay(lock, r, numbers);
        before = new Told(lock);
        return this;
    }

    /** Every place of a ROW, and that there are no more. */
    Edge isRow(int r, int... numbers) {
        for (int i = 0; i < numbers.length; i++) {
            due("at(" + r + ", " + i + ") = 1 asked " + numbers[i]);
        }
        return due("at(" + r + ", " + numbers.length + ") = BEYOND");
    }

    long digest() {
        return before.digest;
    }

    /** Numbers that are none of least .. most: next to it, far off, and such as come into it if they are cut. */
    static int[] outside(int least, int most) {
        long[] all = {least - 1L, most + 1L, least - 2L, most + 2L, Integer.MIN_VALUE, Integer.MAX_VALUE,
            -most - 1L, least + 256L, least - 256L, most + 65536L, (long) Integer.MIN_VALUE + least,
                    most + (1L << 30)};
        return Arrays.stream(all).filter(v -> v < least || v > most).filter(v -> v == (int) v)
            .mapToInt(v -> (int) v).distinct().toArray();
    }

    // ---- asking

    Edge due(String... calls) {
        for (String call : calls) {
            take(call);
        }
        return this;
    }

    /** One step for each number, which stands in the place of %d. */
    Edge each(String call, int... numbers) {
        for (int v : numbers) {
            take(call.replace("%d", Integer.toString(v)));
        }
        return this;
    }

    private void take(String step) {
        Matcher m = STEP.matcher(step);
        if (!m.matches()) {
            throw new IllegalArgumentException("no step: " + step);
        }
        String call = m.group(1);
        String answer = m.group(3);
        int finding = Math.max(0, FINDINGS.indexOf(answer));
        long got = ask(call, m.group(2));
        Told after = new Told(lock);
        check(step, got, finding > 0 ? TurnedLock.FINDING : number(answer));
        findings(step, after, finding);
        boolean refused = finding > 0 || REFUSALS.contains(answer);
        if (refused || !CHANGING.contains(call)) {
            check(step + ": digest()", after.digest, before.digest);
        }
        if (m.group(4) != null || refused || !ASKED.contains(call)) {
            check(step + ": asked()", after.asked, m.group(4) != null ? number(m.group(4)) : before.asked);
        }
        boolean told = m.group(5) != null;
        if (told || refused || !TOLD.contains(call)) {
            check(step + ": upper()", after.upper, told ? Long.parseLong(m.group(5)) : before.upper);
            check(step + ": lower()", after.lower, told ? Long.parseLong(m.group(6)) : before.lower);
        }
        before = after;
        steps++;
    }

    private void findings(String step, Told after, int which) {
        check(step + ": finding()", after.finding, which > 0 ? which : before.finding);
        for (int f = 1; f <= 5; f++) {
            check(step + ": findings(" + f + ")", after.findings[f], before.findings[f] + (f == which ? 1 : 0));
        }
    }

    private long ask(String call, String told) {
        String[] words = told.isEmpty() ? new String[0] : told.split(", ");
        Object[] numbers = new Object[words.length];
        for (int i = 0; i < words.length; i++) {
            numbers[i] = (int) number(words[i]);
        }
        try {
            return ((Number) CALLS.get(call).invoke(lock, numbers)).longValue();
        } catch (InvocationTargetException e) {
            throw new IllegalStateException(call + "(" + told + ") threw " + e.getCause());
        } catch (IllegalAccessException e) {
            throw new IllegalStateException(e);
        }
    }

    private static long number(String word) {
        return NAMES.containsKey(word) ? NAMES.get(word) : Long.parseLong(word);
    }

    Edge check(String what, long got, long due) {
        steps++;
        if (got != due) {
            wrong++;
            System.out.println("  " + name + ": " + what + " answered " + got + ", due is " + due);
        }
        return this;
    }

    // ---- running

    static List<Method> testsOf(Class<?> tests) {
        List<Method> all = new ArrayList<>();
        for (Method m : tests.getDeclaredMethods()) {
            if (m.isAnnotationPresent(Says.class)) {
                all.add(m);
            }
        }
        all.sort(Comparator.comparing(Method::getName));
        return all;
    }

    /** How many tests of a class fail. */
    static int failing(Class<?> tests) {
        int failing = 0;
        List<Method> all = testsOf(tests);
        for (Method m : all) {
            Edge edge = new Edge(m.getName());
            try {
                m.invoke(null, edge);
            } catch (InvocationTargetException e) {
                edge.wrong++;
                System.out.println("  " + m.getName() + ": " + e.getCause());
            } catch (IllegalAccessException e) {
                throw new IllegalStateException(e);
            }
            boolean holds = edge.wrong == 0 && edge.steps > 0;
            System.out.println((holds ? "  ok   " : "  FAIL ") + m.getName());
            failing += holds ? 0 : 1;
        }
        System.out.println(all.size() + " tests of boundary cases, " + failing + " failing");
        return all.isEmpty() ? 1 : failing;
    }

    static void runAll(Class<?> tests) {
        if (failing(tests) != 0) {
            System.exit(1);
        }
    }
}
