import java.math.BigInteger;
import java.util.ArrayList;
import java.util.Arrays;
import java.util.List;

/**
 * The document once more, by the longest way: WAYS are turned one by one, WEIGHTS are made anew from
 * the DEEDS at each call, numbers are as wide as they like. ModelTest holds the class against it.
 */
public final class Model {
    private static final String LETTERS = "peabol";

    private static final class Deed {
        final int p;
        final int setting;

        Deed(int p, int setting) {
            this.p = p;
            this.setting = setting;
        }
    }

    private static final class Kept {
        final int[] flicks;
        final List<Deed> deeds;

        Kept(int[] flicks, List<Deed> deeds) {
            this.flicks = flicks.clone();
            this.deeds = new ArrayList<>(deeds);
        }
    }

    private final int[][] rows = new int[6][];
    private final byte[][] texts = new byte[4][];
    private final Kept[] kept = new Kept[3];
    private int wheels = 0;
    private int notches = 0;
    private int[] kinds = {};
    private int[] flicks = {};
    private List<Deed> deeds = new ArrayList<>();
    private int asked = 0;
    private BigInteger upper = BigInteger.ZERO;
    private BigInteger lower = BigInteger.ONE;
    private int finding = 0;
    private final int[] findings = new int[6];

    private int found(int f) {
        finding = f;
        findings[f]++;
        return -3;
    }

    private static boolean in(int v, int least, int most) {
        return v >= least && v <= most;
    }

    private boolean isPerson(int p) {
        return in(p, 0, kinds.length - 1);
    }

    private int settings() {
        return kinds.length == 0 ? 0 : (int) Math.round(Math.pow(notches, wheels));
    }

    private boolean isSetting(int s) {
        return in(s, 0, settings() - 1);
    }

    private int[] notchesOf(int s) {
        int[] each = new int[wheels];
        for (int w = wheels - 1; w >= 0; w--) {
            each[w] = s % notches;
            s /= notches;
        }
        return each;
    }

    private int turn(int s, int w, int by) {
        int[] each = notchesOf(s);
        each[w] = Math.floorMod(each[w] + by, notches);
        int number = 0;
        for (int notch : each) {
            number = number * notches + notch;
        }
        return number;
    }

    /** Every WAY of a PERSON from a CODE: the SETTING to which it leads. */
    private List<Integer> sightsFrom(int p, int code) {
        List<Integer> all = new ArrayList<>(List.of(code));
        int last = wheels - 1;
        switch (kinds[p]) {
            case 0:
                return turnedEach(all, last, 1, flicks[p], false);
            case 1:
                return turnedEach(all, last, 1, flicks[p], true);
            case 2: {
                List<Integer> any = new ArrayList<>();
                for (int w = 0; w < wheels; w++) {
                    any.addAll(turnedEach(all, w, 1, flicks[p], false));
                }
                return any;
            }
            case 3: {
                List<Integer> every = new ArrayList<>();
                for (int s = 0; s < settings(); s++) {
                    every.add(s);
                }
                return every;
            }
            case 4:
                if (wheels > 1) {
                    all = turnedEach(all, last - 1, 1, flicks[p], true);
                }
                return turnedEach(all, last, 1, flicks[p], true);
            default:
                for (int w = 0; w < wheels; w++) {
                    all = turnedEach(all, w, 0, flicks[p], false);
                }
                return all;
        }
    }

    private List<Integer> turnedEach(List<Integer> from, int w, int least, int most, boolean down) {
        List<Integer> all = new ArrayList<>();
        for (int s : from) {
            for (int by = least; by <= most; by++) {
                all.add(turn(s, w, by));
                if (down) {
                    all.add(turn(s, w, -by));
                }
            }
        }
        return all;
    }

    private int waysBetween(int p, int code, int seen) {
        int many = 0;
        for (int s : sightsFrom(p, code)) {
            many += s == seen ? 1 : 0;
        }
        return many;
    }

    private BigInteger[] weightsBy(List<Deed> by) {
        BigInteger[] all = new BigInteger[settings()];
        Arrays.fill(all, BigInteger.ONE);
        for (Deed deed : by) {
            for (int code = 0; code < all.length; code++) {
                if (deed.p >= 0) {
                    all[code] = all[code].multiply(BigInteger.valueOf(waysBetween(deed.p, code, deed.setting)));
                } else if (code == deed.setting) {
                    all[code] = BigInteger.ZERO;
                }
            }
        }
        return all;
    }

    private BigInteger[] weights() {
        return weightsBy(deeds);
    }

    private static BigInteger sum(BigInteger[] all) {
        BigInteger s = BigInteger.ZERO;
        for (BigInteger v : all) {
            s = s.add(v);
        }
        return s;
    }

    private static int above(BigInteger[] all) {
        int many = 0;
        for (BigInteger v : all) {
            many += v.signum() > 0 ? 1 : 0;
        }
        return many;
    }

    private static int firstMost(BigInteger[] all) {
        int first = 0;
        for (int i = 0; i < all.length; i++) {
            first = all[i].compareTo(all[first]) > 0 ? i : first;
        }
        return first;
    }

    private int tell(BigInteger u, BigInteger l) {
        BigInteger g = u.gcd(l);
        upper = u.divide(g);
        lower = l.divide(g);
        return 1;
    }

    public int row(int r, int n) {
        if (!in(r, 0, 5) || n > 40) {
            return -1;
        }
        if (n < 0) {
            return found(5);
        }
        rows[r] = new int[n];
        return n;
    }

    public int lay(int r, int i, int v) {
        int a = at(r, i);
        if (a == 1) {
            rows[r][i] = v;
        }
        return a;
    }

    public int at(int r, int i) {
        if (!in(r, 0, 5)) {
            return -1;
        }
        if (rows[r] == null) {
            return found(1);
        }
        if (!in(i, 0, rows[r].length - 1)) {
            return found(2);
        }
        asked = rows[r][i];
        return 1;
    }

    public int tear(int r) {
        if (!in(r, 0, 5)) {
            return -1;
        }
        if (rows[r] == null) {
            return found(1);
        }
        rows[r] = null;
        return 1;
    }

    public int copy(int r, int i, int to, int j, int n) {
        if (!in(r, 0, 5) || !in(to, 0, 5)) {
            return -1;
        }
        if (n < 0) {
            return found(5);
        }
        if (rows[r] == null || rows[to] == null) {
            return found(1);
        }
        if (i < 0 || j < 0 || (long) i + n > rows[r].length || (long) j + n > rows[to].length) {
            return found(2);
        }
        int[] taken = Arrays.copyOfRange(rows[r], i, i + n);
        for (int k = 0; k < n; k++) {
            rows[to][j + k] = taken[k];
        }
        return 1;
    }

    public int mean(int r) {
        if (!in(r, 0, 5)) {
            return -1;
        }
        if (rows[r] == null) {
            return found(1);
        }
        if (rows[r].length == 0) {
            return found(4);
        }
        BigInteger all = BigInteger.ZERO;
        for (int v : rows[r]) {
            all = all.add(BigInteger.valueOf(v));
        }
        asked = all.divide(BigInteger.valueOf(rows[r].length)).intValueExact();
        return 1;
    }

    public int text(int t, int n) {
        if (!in(t, 0, 3) || n > 60) {
            return -1;
        }
        if (n < 0) {
            return found(5);
        }
        texts[t] = new byte[n];
        Arrays.fill(texts[t], (byte) 32);
        return n;
    }

    public int put(int t, int i, int v) {
        if (!in(t, 0, 3)) {
            return -1;
        }
        if (texts[t] == null) {
            return found(1);
        }
        if (!in(i, 0, texts[t].length - 1)) {
            return found(2);
        }
        int was = texts[t][i];
        texts[t][i] = (byte) v;
        return was + 1000;
    }

    /** Each longer beginning is held against what may begin a SHED: the first that may not tells. */
    public int fault(int t) {
        if (!in(t, 0, 3)) {
            return -1;
        }
        if (texts[t] == null) {
            return found(1);
        }
        StringBuilder all = new StringBuilder();
        for (byte b : texts[t]) {
            all.append((char) (b & 255));
        }
        String item = "[peabol][1-3]";
        for (int n = 1; n <= all.length(); n++) {
            String ahead = all.substring(0, n);
            boolean may = ahead.matches(" *(w([1-3]([4-6]( *" + item + "){0,5} *)?)?)?")
                    || ahead.matches(" *w[1-3][4-6]( *" + item + "){0,4} *[peabol]");
            if (!may) {
                return n - 1;
            }
        }
        return all.toString().matches(" *w[1-3][4-6]( *" + item + "){1,5} *") ? -9 : all.length();
    }

    public int shed(int t) {
        int f = fault(t);
        if (f == -1 || f == -3) {
            return f;
        }
        if (f != -9) {
            return -4;
        }
        String signs = new String(texts[t], java.nio.charset.StandardCharsets.ISO_8859_1).replace(" ", "");
        wheels = signs.charAt(1) - '0';
        notches = signs.charAt(2) - '0';
        int n = (signs.length() - 3) / 2;
        kinds = new int[n];
        flicks = new int[n];
        for (int p = 0; p < n; p++) {
            kinds[p] = LETTERS.indexOf(signs.charAt(3 + 2 * p));
            flicks[p] = signs.charAt(4 + 2 * p) - '0';
        }
        deeds = new ArrayList<>();
        Arrays.fill(kept, null);
        return n;
    }

    private int fact(int p, int what) {
        int looks = 0;
        for (Deed deed : deeds) {
            looks += deed.p == p ? 1 : 0;
        }
        return new int[] {kinds[p], flicks[p], sightsFrom(p, 0).size(), looks}[what];
    }

    public int person(int p, int what) {
        if (!isPerson(p) || !in(what, 0, 3)) {
            return -1;
        }
        asked = fact(p, what);
        return 1;
    }

    public int mark(int p, int kind) {
        if (!isPerson(p) || !in(kind, 1, 5)) {
            return -1;
        }
        boolean is = kinds[p] == kind || kinds[p] == 4 && kind == 1 || kinds[p] == 5 && kind == 2;
        if (!is) {
            return found(3);
        }
        List<Integer> sights = sightsFrom(p, 0);
        switch (kind) {
            case 1:
                return (int) sights.stream().distinct().count();
            case 2:
                return (int) sights.stream().filter(s -> notchesOf(s)[0] == 0).count();
            case 3:
                return above(weights());
            case 4:
                return wheels == 1 ? 1 : 2;
            default:
                return sights.stream().mapToInt(s -> Arrays.stream(notchesOf(s)).sum()).sum();
        }
    }

    public int flicks(int p, int v) {
        if (!isPerson(p) || !in(v, 1, 3)) {
            return -1;
        }
        if (!deeds.isEmpty()) {
            return -4;
        }
        int were = flicks[p];
        flicks[p] = v;
        return were;
    }

    private int deed(int p, int setting) {
        List<Deed> more = new ArrayList<>(deeds);
        more.add(new Deed(p, setting));
        int left = above(weightsBy(more));
        if (left == 0) {
            return found(4);
        }
        if (deeds.size() == 16) {
            return -2;
        }
        deeds = more;
        return left;
    }

    public int look(int p, int seen) {
        return !isPerson(p) || !isSetting(seen) ? -1 : deed(p, seen);
    }

    public int vain(int code) {
        return !isSetting(code) ? -1 : deed(-1, code);
    }

    public int undo(int n) {
        if (!in(n, 0, deeds.size())) {
            return -1;
        }
        int were = deeds.size();
        deeds = new ArrayList<>(deeds.subList(0, n));
        return were - n;
    }

    public int keep(int k) {
        if (!in(k, 0, 2)) {
            return -1;
        }
        if (kinds.length == 0) {
            return -4;
        }
        kept[k] = new Kept(flicks, deeds);
        return deeds.size();
    }

    public int on(int k) {
        if (!in(k, 0, 2)) {
            return -1;
        }
        if (kept[k] == null) {
            return found(1);
        }
        flicks = kept[k].flicks.clone();
        deeds = new ArrayList<>(kept[k].deeds);
        return deeds.size();
    }

    public int likely(int code) {
        if (!isSetting(code)) {
            return -1;
        }
        BigInteger[] all = weights();
        return tell(all[code], sum(all));
    }

    public int best() {
        if (kinds.length == 0) {
            return -4;
        }
        BigInteger[] all = weights();
        int first = firstMost(all);
        asked = (int) Arrays.stream(all).filter(v -> v.equals(all[first])).count();
        return first;
    }

    private BigInteger weightAt(int w, int notch) {
        BigInteger[] all = weights();
        BigInteger s = BigInteger.ZERO;
        for (int code = 0; code < all.length; code++) {
            s = notchesOf(code)[w] == notch ? s.add(all[code]) : s;
        }
        return s;
    }

    public int wheel(int w, int notch) {
        if (kinds.length == 0 || !in(w, 0, wheels - 1) || !in(notch, 0, notches - 1)) {
            return -1;
        }
        return tell(weightAt(w, notch), sum(weights()));
    }

    public int certain() {
        if (kinds.length == 0) {
            return -4;
        }
        int bits = 0;
        String number = "";
        for (int w = 0; w < wheels; w++) {
            int one = -1;
            int many = 0;
            for (int notch = 0; notch < notches; notch++) {
                if (weightAt(w, notch).signum() > 0) {
                    one = notch;
                    many++;
                }
            }
            bits += many == 1 ? 1 << w : 0;
            number += many == 1 ? one : 9;
        }
        asked = Integer.parseInt(number);
        return bits;
    }

    private List<Integer> order() {
        BigInteger[] all = weights();
        List<Integer> codes = new ArrayList<>();
        for (int code = 0; code < all.length; code++) {
            if (all[code].signum() > 0) {
                codes.add(code);
            }
        }
        codes.sort((a, b) -> all[b].equals(all[a]) ? a - b : all[b].compareTo(all[a]));
        return codes;
    }

    public int order(int n, int r) {
        if (!in(n, 1, 40) || !in(r, 0, 5)) {
            return -1;
        }
        if (kinds.length == 0) {
            return -4;
        }
        rows[r] = order().stream().limit(n).mapToInt(i -> i).toArray();
        return rows[r].length;
    }

    public int tries() {
        if (kinds.length == 0) {
            return -4;
        }
        BigInteger[] all = weights();
        BigInteger s = BigInteger.ZERO;
        int rank = 0;
        for (int code : order()) {
            rank++;
            s = s.add(all[code].multiply(BigInteger.valueOf(rank)));
        }
        return tell(s, sum(all));
    }

    public int within(int n) {
        if (!in(n, 0, 216)) {
            return -1;
        }
        if (kinds.length == 0) {
            return -4;
        }
        BigInteger[] all = weights();
        BigInteger s = BigInteger.ZERO;
        List<Integer> codes = order();
        for (int i = 0; i < n && i < codes.size(); i++) {
            s = s.add(all[codes.get(i)]);
        }
        return tell(s, sum(all));
    }

    private BigInteger[][] joint(int p) {
        BigInteger[] all = weights();
        BigInteger[][] both = new BigInteger[all.length][all.length];
        for (int code = 0; code < all.length; code++) {
            int[] ways = new int[all.length];
            for (int s : sightsFrom(p, code)) {
                ways[s]++;
            }
            for (int s = 0; s < all.length; s++) {
                both[s][code] = all[code].multiply(BigInteger.valueOf(ways[s]));
            }
        }
        return both;
    }

    private BigInteger worthAbove(int p) {
        BigInteger s = BigInteger.ZERO;
        for (BigInteger[] of : joint(p)) {
            s = s.add(of[firstMost(of)]);
        }
        return s;
    }

    private BigInteger below(int p) {
        return sum(weights()).multiply(BigInteger.valueOf(sightsFrom(p, 0).size()));
    }

    public int worth(int p) {
        return !isPerson(p) ? -1 : tell(worthAbove(p), below(p));
    }

    public int whose() {
        if (kinds.length == 0) {
            return -4;
        }
        int most = 0;
        int least = 0;
        BigInteger[] a = new BigInteger[kinds.length];
        BigInteger[] b = new BigInteger[kinds.length];
        for (int p = 0; p < kinds.length; p++) {
            a[p] = worthAbove(p);
            b[p] = below(p);
            most = a[p].multiply(b[most]).compareTo(a[most].multiply(b[p])) > 0 ? p : most;
            least = a[p].multiply(b[least]).compareTo(a[least].multiply(b[p])) < 0 ? p : least;
        }
        asked = least;
        return most;
    }

    public int seen(int p, int setting) {
        return !isPerson(p) || !isSetting(setting) ? -1 : tell(sum(joint(p)[setting]), below(p));
    }

    public int sights(int p) {
        if (!isPerson(p)) {
            return -1;
        }
        BigInteger[] each = Arrays.stream(joint(p)).map(Model::sum).toArray(BigInteger[]::new);
        asked = firstMost(each);
        return above(each);
    }

    /** The told LOOKS, or null with the refusal in 'refused'. */
    private List<Deed> told(int r, int[] refused) {
        if (!in(r, 0, 5)) {
            refused[0] = -1;
        } else if (kinds.length == 0) {
            refused[0] = -4;
        } else if (rows[r] == null) {
            refused[0] = found(1);
        } else if (rows[r].length > 12 || rows[r].length % 2 == 1) {
            refused[0] = found(5);
        } else {
            List<Deed> all = new ArrayList<>();
            for (int i = 0; i < rows[r].length; i += 2) {
                if (!isPerson(rows[r][i]) || !isSetting(rows[r][i + 1])) {
                    refused[0] = found(3);
                    return null;
                }
                all.add(new Deed(rows[r][i], rows[r][i + 1]));
            }
            return all;
        }
        return null;
    }

    public int fits(int r) {
        int[] refused = {0};
        List<Deed> told = told(r, refused);
        if (told == null) {
            return refused[0];
        }
        BigInteger[] all = weightsBy(told);
        asked = -9;
        for (int code = all.length - 1; code >= 0; code--) {
            asked = all[code].signum() > 0 ? code : asked;
        }
        return above(all);
    }

    public int chance(int r) {
        int[] refused = {0};
        List<Deed> told = told(r, refused);
        if (told == null) {
            return refused[0];
        }
        BigInteger l = BigInteger.valueOf(settings());
        for (Deed deed : told) {
            l = l.multiply(BigInteger.valueOf(sightsFrom(deed.p, 0).size()));
        }
        return tell(sum(weightsBy(told)), l);
    }

    public int read(int r) {
        int[] refused = {0};
        List<Deed> told = told(r, refused);
        if (told == null) {
            return refused[0];
        }
        BigInteger[] all = weightsBy(told);
        return above(all) == 0 ? found(4) : firstMost(all);
    }

    public int who(int code, int seen) {
        if (!isSetting(code) || !isSetting(seen)) {
            return -1;
        }
        int bits = 0;
        asked = -9;
        double likeliest = 0;
        for (int p = 0; p < kinds.length; p++) {
            // Rounded alike where alike: both numbers are small.
            double likely = (double) waysBetween(p, code, seen) / sightsFrom(p, 0).size();
            bits += likely > 0 ? 1 << p : 0;
            if (likely > likeliest + 1e-9) {
                likeliest = likely;
                asked = p;
            }
        }
        return bits;
    }

    public int ways(int p, int code, int seen) {
        return !isPerson(p) || !isSetting(code) || !isSetting(seen) ? -1 : waysBetween(p, code, seen);
    }

    private int[] between(int code, int seen) {
        int[] from = notchesOf(code);
        int[] to = notchesOf(seen);
        int far = 0;
        int differ = 0;
        for (int w = 0; w < wheels; w++) {
            int d = Math.abs(from[w] - to[w]);
            far += Math.min(d, notches - d);
            differ += d == 0 ? 0 : 1;
        }
        return new int[] {far, differ};
    }

    public int apart(int code, int seen) {
        if (!isSetting(code) || !isSetting(seen)) {
            return -1;
        }
        asked = between(code, seen)[1];
        return between(code, seen)[0];
    }

    public int near(int code, int n) {
        if (!isSetting(code) || !in(n, 0, 9)) {
            return -1;
        }
        int many = 0;
        for (int s = 0; s < settings(); s++) {
            many += between(code, s)[0] <= n ? 1 : 0;
        }
        return many;
    }

    public int lots(int n, int seed) {
        if (!in(n, 1, 8) || !in(seed, 1, 2147483646)) {
            return -1;
        }
        if (kinds.length == 0) {
            return -4;
        }
        BigInteger number = BigInteger.valueOf(seed);
        long[] drawn = new long[1 + 2 * n];
        for (int i = 0; i < drawn.length; i++) {
            number = number.multiply(BigInteger.valueOf(48271)).mod(BigInteger.valueOf(2147483647));
            drawn[i] = number.longValueExact();
        }
        int code = (int) (drawn[0] % settings());
        deeds = new ArrayList<>();
        for (int i = 0; i < n; i++) {
            int p = (int) (drawn[1 + 2 * i] / 16 % kinds.length);
            List<Integer> all = sightsFrom(p, code);
            all.sort(null);
            deeds.add(new Deed(p, all.get((int) (drawn[2 + 2 * i] / 32 % all.size()))));
        }
        return code;
    }

    public int asked() {
        return asked;
    }

    public long upper() {
        return upper.longValueExact();
    }

    public long lower() {
        return lower.longValueExact();
    }

    public int count(int what) {
        boolean none = kinds.length == 0;
        switch (what) {
            case 0: return kinds.length;
            case 1: return none ? 0 : wheels;
            case 2: return none ? 0 : notches;
            case 3: return settings();
            case 4: return above(weights());
            case 5: return deeds.size();
            case 6: return (int) Arrays.stream(kinds).filter(k -> k == 2 || k == 5).count();
            case 7: return (int) Arrays.stream(rows).filter(r -> r != null).count();
            case 8: return (int) Arrays.stream(texts).filter(t -> t != null).count();
            case 9: return (int) Arrays.stream(kept).filter(k -> k != null).count();
            default: return -1;
        }
    }

    public int finding() {
        return finding;
    }

    public int findings(int f) {
        return in(f, 1, 5) ? findings[f] : -1;
    }

    public long digest() {
        List<Long> all = new ArrayList<>();
        for (int what = 0; what <= 9; what++) {
            all.add((long) count(what));
        }
        for (BigInteger v : weights()) {
            all.add(v.longValueExact());
        }
        for (int p = 0; p < kinds.length; p++) {
            for (int what = 0; what <= 3; what++) {
                all.add((long) fact(p, what));
            }
        }
        for (Kept k : kept) {
            all.add(k == null ? -1L : k.deeds.size());
        }
        for (int[] r : rows) {
            all.add(r == null ? -1L : r.length);
            for (int i = 0; r != null && i < r.length; i++) {
                all.add((long) r[i]);
            }
        }
        for (byte[] t : texts) {
            all.add(t == null ? -1L : t.length);
            for (int i = 0; t != null && i < t.length; i++) {
                all.add((long) t[i]);
            }
        }
        long h = 17;
        for (long v : all) {
            h = 31 * h + v;
        }
        return h;
    }
}
