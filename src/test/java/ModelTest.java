import java.lang.reflect.Method;
import java.lang.reflect.Modifier;
import java.util.ArrayList;
import java.util.Comparator;
import java.util.List;
import java.util.Random;

/** All promises at once: runs of drawn calls on the class and on the Model, which must answer alike. */
final class ModelTest {
    private static final int RUNS = 80;
    private static final int CALLS = 400;
    private static final int LONG_RUNS = 40;
    private static final int USED = 512;
    private static final int[] EDGES = {-1, 0, 1, 2, 3, 4, 5, 6, 9, 10, 16, 40, 41, 60, 61, 215, 216, 217,
        Integer.MAX_VALUE, Integer.MIN_VALUE, 2147483646};

    private final Random random;
    private final TurnedLock lock = new TurnedLock();
    private final Model model = new Model();
    private final List<String> story = new ArrayList<>();

    private ModelTest(long seed) {
        random = new Random(seed);
    }

    public static void main(String[] args) throws Exception {
        List<Method> calls = new ArrayList<>();
        for (Method m : TurnedLock.class.getDeclaredMethods()) {
            if (Modifier.isPublic(m.getModifiers())) {
                calls.add(m);
            }
        }
        calls.sort(Comparator.comparing(Method::getName));
        int[] answered = new int[calls.size()];
        for (int run = 0; run < RUNS; run++) {
            if (!new ModelTest(run).holds(calls, answered)) {
                System.exit(1);
            }
        }
        for (int c = 0; c < answered.length; c++) {
            if (answered[c] < 20) {
                System.out.println(calls.get(c).getName() + " was answered too seldom: " + answered[c]);
                System.exit(1);
            }
        }
        System.out.println(RUNS + " runs of drawn calls are answered as the model answers");
        for (int run = 0; run < LONG_RUNS; run++) {
            new ModelTest(1000 + run).useUp(calls);
        }
        System.out.println(LONG_RUNS + " runs of just " + USED + " calls are answered so to the last");
    }

    /** As many calls as an object is used for, with none between them that only looks; the last tells of all. */
    private void useUp(List<Method> calls) throws Exception {
        while (story.size() < USED - 1) {
            boolean mayWrite = story.size() < USED - 100;
            if (mayWrite && (story.isEmpty() || random.nextInt(80) == 0)) {
                writeText();
            } else if (mayWrite && random.nextInt(20) == 0) {
                writePairs();
            } else {
                drawn(calls.get(random.nextInt(calls.size())));
            }
        }
        ask(TurnedLock.class.getMethod("digest"), new Object[0]);
        if (story.size() != USED) {
            System.out.println("a run of " + story.size() + " calls");
            System.exit(1);
        }
    }

    private long drawn(Method m) throws Exception {
        Object[] args = new Object[m.getParameterCount()];
        for (int a = 0; a < args.length; a++) {
            args[a] = argument(m.getName(), a);
        }
        return ask(m, args);
    }

    private boolean holds(List<Method> calls, int[] answered) throws Exception {
        for (int i = 0; i < CALLS; i++) {
            if (random.nextInt(i < 3 ? 1 : 60) == 0) {
                writeText();
            }
            if (random.nextInt(20) == 0) {
                writePairs();
            }
            int c = random.nextInt(calls.size());
            Method m = calls.get(c);
            if (m.getName().equals("shed") && random.nextInt(3) != 0) {
                continue;
            }
            answered[c] += drawn(m) >= 0 ? 1 : 0;
            if (!alike()) {
                return false;
            }
        }
        return true;
    }

    private long ask(Method m, Object[] args) throws Exception {
        long got = ((Number) m.invoke(lock, args)).longValue();
        long due = ((Number) Model.class.getMethod(m.getName(), m.getParameterTypes()).invoke(model, args)).longValue();
        story.add(m.getName() + java.util.Arrays.toString(args) + " = " + due);
        if (got != due) {
            story.forEach(System.out::println);
            System.out.println("the last answered " + got);
            System.exit(1);
        }
        return got;
    }

    /** Whatever a call tells or changes shows in these. */
    private boolean alike() {
        boolean same = lock.asked() == model.asked() && lock.upper() == model.upper()
                && lock.lower() == model.lower() && lock.finding() == model.finding()
                && lock.digest() == model.digest();
        for (int f = 1; f <= 5; f++) {
            same &= lock.findings(f) == model.findings(f);
        }
        if (!same) {
            story.forEach(System.out::println);
            System.out.println("then what is told differs");
        }
        return same;
    }

    private void writeText() throws Exception {
        StringBuilder signs = new StringBuilder(blanks()).append('w').append(1 + random.nextInt(3));
        signs.append(4 + random.nextInt(3));
        int persons = random.nextInt(12) == 0 ? 6 : 1 + random.nextInt(5);
        for (int p = 0; p < persons; p++) {
            signs.append(blanks()).append("peabol".charAt(random.nextInt(6))).append(1 + random.nextInt(3));
        }
        signs.append(blanks());
        if (random.nextInt(4) == 0) {
            signs.setCharAt(random.nextInt(signs.length()), " w0123456peabolx".charAt(random.nextInt(16)));
        }
        if (random.nextInt(6) == 0) {
            signs.setLength(random.nextInt(signs.length()));
        }
        int t = random.nextInt(2);
        ask(TurnedLock.class.getMethod("text", int.class, int.class), new Object[] {t, signs.length()});
        Method put = TurnedLock.class.getMethod("put", int.class, int.class, int.class);
        for (int i = 0; i < signs.length(); i++) {
            ask(put, new Object[] {t, i, (int) signs.charAt(i)});
        }
        ask(TurnedLock.class.getMethod("fault", int.class), new Object[] {t});
        ask(TurnedLock.class.getMethod("shed", int.class), new Object[] {t});
    }

    /** A ROW of told LOOKS; half of them could be from one code. */
    private void writePairs() throws Exception {
        int persons = model.count(0);
        int pairs = random.nextInt(7);
        int code = setting();
        boolean truly = random.nextBoolean();
        int r = random.nextInt(4);
        ask(TurnedLock.class.getMethod("row", int.class, int.class), new Object[] {r, 2 * pairs});
        Method lay = TurnedLock.class.getMethod("lay", int.class, int.class, int.class);
        for (int i = 0; i < pairs && persons > 0; i++) {
            int p = random.nextInt(persons);
            int seen = setting();
            for (int draw = 0; draw < 500 && truly && model.ways(p, code, seen) < 1; draw++) {
                seen = setting();
            }
            ask(lay, new Object[] {r, 2 * i, p});
            ask(lay, new Object[] {r, 2 * i + 1, seen});
        }
        for (String call : List.of("fits", "chance", "read")) {
            ask(TurnedLock.class.getMethod(call, int.class), new Object[] {r});
        }
    }

    private String blanks() {
        return " ".repeat(random.nextInt(3) == 0 ? random.nextInt(3) : 0);
    }

    /** A number that mostly fits its place, so that not all is refused. */
    private int argument(String call, int place) {
        if (random.nextInt(14) == 0) {
            return EDGES[random.nextInt(EDGES.length)];
        }
        switch (call) {
            case "row": case "text":
                return random.nextInt(place == 0 ? 4 : 14);
            case "lay":
                return place == 2 ? (random.nextInt(3) == 0 ? random.nextInt() : random.nextInt(20)) : random.nextInt(6);
            case "put":
                return place == 2 ? random.nextInt() : random.nextInt(4);
            case "copy":
                return random.nextInt(5);
            case "vain": case "likely": case "who": case "apart":
                return setting();
            case "look": case "seen":
                return place == 0 ? random.nextInt(5) : setting();
            case "ways":
                return place == 0 ? random.nextInt(5) : setting();
            case "near":
                return place == 0 ? setting() : random.nextInt(10);
            case "order":
                return place == 0 ? 1 + random.nextInt(40) : random.nextInt(6);
            case "within":
                return random.nextInt(217);
            case "undo":
                return random.nextInt(9);
            case "lots":
                return place == 0 ? 1 + random.nextInt(8) : 1 + random.nextInt(2147483646);
            case "count":
                return random.nextInt(10);
            case "fits": case "chance": case "read":
                return random.nextInt(4);
            default:
                return random.nextInt(6);
        }
    }

    private int setting() {
        int many = Math.max(1, model.count(3));
        return random.nextInt(many + (random.nextInt(10) == 0 ? 2 : 0));
    }
}
