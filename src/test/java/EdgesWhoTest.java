import java.math.BigInteger;
import java.util.ArrayList;
import java.util.Collections;
import java.util.List;

/** Boundary cases of promises 34 to 38: who shut it, codes that are near, lots. */
final class EdgesWhoTest {
    private static final BigInteger PRIME = BigInteger.valueOf(2147483647);

    public static void main(String[] args) {
        Edge.runAll(EdgesWhoTest.class);
    }

    // ---- 34 who

    @Says("PERSONS (bits) who can have turned it from a CODE to what is SEEN;")
    static void promise34_nobodyToAll(Edge e) {
        e.shed("w14 p1 p2").due("who(0, 0) = 0 asked NONE", "who(0, 1) = 3 asked 0", "who(0, 2) = 2 asked 1");
        e.due("who(0, 3) = 0 asked NONE", "who(3, 0) = 3 asked 0", "who(2, 0) = 2 asked 1",
                "who(3, 3) = 0 asked NONE");
        e.shed("w36 b1 b1 b1 b1 b1").due("who(0, 215) = 31 asked 0", "who(215, 0) = 31 asked 0",
                "who(215, 215) = 31 asked 0");
        e.shed("w24 o1 a1 l1 e1 p1").due("who(15, 0) = 5 asked 0", "who(15, 12) = 30 asked 4",
                "who(15, 14) = 8 asked 3");
        e.due("who(15, 3) = 6 asked 1", "who(15, 15) = 4 asked 2", "vain(15) = 15", "who(15, 0) = 5 asked 0");
    }

    @Says("the likeliest of these, if any is alike likely ahead (the first), by asked() (NONE: none).")
    static void promise34_theFirst(Edge e) {
        e.shed("w16 e3 p3").due("who(0, 3) = 3 asked 0", "who(0, 2) = 3 asked 1").shed("w16 p3 e3")
                .due("who(0, 3) = 3 asked 0");
        e.shed("w16 b1 e3 p3").due("who(0, 1) = 7 asked 2", "who(0, 5) = 3 asked 0").shed("w14 p3 p2 p2 p1 p1");
        e.due("who(0, 3) = 1 asked 0", "who(0, 2) = 7 asked 1", "who(0, 1) = 31 asked 3");
    }

    @Says("BAD: no SETTINGS.")
    static void promise34_bad(Edge e) {
        e.fresh().due("who(0, 0) = BAD").shed("w14 p1").each("who(%d, 0) = BAD", Edge.outside(0, 3));
        e.each("who(0, %d) = BAD", Edge.outside(0, 3)).due("who(4, 4) = BAD", "who(3, 0) = 1 asked 0",
                "who(0, 3) = 0 asked NONE");
        e.shed("w36 b1").each("who(%d, 0) = BAD", Edge.outside(0, 215))
                .each("who(0, %d) = BAD", Edge.outside(0, 215));
    }

    // ---- 35 ways

    @Says("In how many WAYS a PERSON turns it from a CODE to what is SEEN.")
    static void promise35_noneToFour(Edge e) {
        e.shed("w24 o2 o3").due("ways(0, 0, 0) = 0", "ways(0, 0, 5) = 1", "ways(0, 0, 6) = 2", "ways(0, 0, 10) = 4");
        e.due("ways(0, 15, 5) = 4", "ways(0, 5, 15) = 4", "ways(0, 15, 0) = 1", "ways(0, 0, 15) = 1",
                "ways(1, 15, 0) = 4");
        e.due("ways(1, 0, 15) = 4", "ways(1, 0, 12) = 0", "vain(0) = 15", "ways(0, 0, 10) = 4");
    }

    @Says("BAD.")
    static void promise35_bad(Edge e) {
        e.fresh().due("ways(0, 0, 0) = BAD").shed("w14 p1 b1").each("ways(%d, 0, 1) = BAD", Edge.outside(0, 1));
        e.each("ways(1, %d, 0) = BAD", Edge.outside(0, 3)).each("ways(1, 0, %d) = BAD", Edge.outside(0, 3));
        e.due("ways(1, 3, 3) = 1", "ways(0, 3, 0) = 1").shed("w36 b1 b1 b1 b1 p1")
                .due("ways(4, 215, 210) = 1", "ways(5, 0, 0) = BAD");
        e.each("ways(0, %d, 0) = BAD", Edge.outside(0, 215)).each("ways(0, 0, %d) = BAD", Edge.outside(0, 215));
    }

    // ---- 36 apart

    @Says({"The fewest NOTCHES (up or down, whichever is shorter, of all WHEELS together)",
        "from a SETTING to another one;"})
    static void promise36_upOrDown(Edge e) {
        int[][] due = {{0, 1, 2, 1}, {0, 1, 2, 2, 1}, {0, 1, 2, 3, 2, 1}};
        for (int n = 4; n <= 6; n++) {
            e.shed("w1" + n + " p1");
            for (int code = 0; code < n; code++) {
                for (int up = 0; up < n; up++) {
                    String call = "apart(" + code + ", " + (code + up) % n + ")";
                    e.due(call + " = " + due[n - 4][up] + " asked " + (up == 0 ? 0 : 1));
                }
            }
        }
    }

    @Says("how many WHEELS differ by asked().")
    static void promise36_noneToAllWheels(Edge e) {
        e.shed("w36 p1").due("apart(0, 0) = 0 asked 0", "apart(215, 215) = 0 asked 0", "apart(0, 1) = 1 asked 1");
        e.due("apart(0, 6) = 1 asked 1", "apart(0, 36) = 1 asked 1", "apart(0, 7) = 2 asked 2",
                "apart(0, 37) = 2 asked 2");
        e.due("apart(0, 42) = 2 asked 2", "apart(0, 43) = 3 asked 3", "apart(0, 215) = 3 asked 3",
                "apart(215, 0) = 3 asked 3");
        e.due("apart(0, 129) = 9 asked 3", "apart(129, 0) = 9 asked 3", "apart(0, 128) = 8 asked 3",
                "apart(5, 6) = 2 asked 2");
        e.shed("w34 p1").due("apart(0, 42) = 6 asked 3", "apart(0, 63) = 3 asked 3", "apart(0, 41) = 5 asked 3");
        e.shed("w35 p1").due("apart(0, 62) = 6 asked 3", "apart(0, 93) = 6 asked 3", "apart(0, 124) = 3 asked 3");
    }

    @Says("BAD: no SETTINGS.")
    static void promise36_bad(Edge e) {
        e.fresh().due("apart(0, 0) = BAD").shed("w14 p1").each("apart(%d, 0) = BAD", Edge.outside(0, 3));
        e.each("apart(0, %d) = BAD", Edge.outside(0, 3)).due("apart(3, 3) = 0 asked 0", "apart(4, 4) = BAD");
        e.shed("w36 p1").each("apart(%d, 0) = BAD", Edge.outside(0, 215))
                .each("apart(0, %d) = BAD", Edge.outside(0, 215));
    }

    // ---- 37 near

    @Says("How many SETTINGS are no more than n (0 .. 9) NOTCHES apart from one.")
    static void promise37_noneToNine(Edge e) {
        int[][] due = {{1, 3, 4, 4, 4, 4, 4, 4, 4, 4}, {1, 3, 5, 5, 5, 5, 5, 5, 5, 5}, {1, 3, 5, 6, 6, 6, 6, 6, 6, 6},
            {1, 5, 11, 15, 16, 16, 16, 16, 16, 16}, {1, 5, 13, 21, 25, 25, 25, 25, 25, 25}, {1, 5, 13, 23, 31, 35, 36,
                    36, 36, 36},
            {1, 7, 22, 42, 57, 63, 64, 64, 64, 64}, {1, 7, 25, 57, 93, 117, 125, 125, 125, 125},
            {1, 7, 25, 60, 108, 156, 191, 209, 215, 216}};
        for (int i = 0; i < due.length; i++) {
            int w = 1 + i / 3;
            int n = 4 + i % 3;
            int last = (int) Math.pow(n, w) - 1;
            e.shed("w" + w + n + " p1");
            for (int far = 0; far <= 9; far++) {
                e.due("near(0, " + far + ") = " + due[i][far], "near(" + last + ", " + far + ") = " + due[i][far]);
            }
        }
    }

    @Says("BAD: also no SETTING.")
    static void promise37_bad(Edge e) {
        e.fresh().due("near(0, 0) = BAD").shed("w14 p1").each("near(%d, 0) = BAD", Edge.outside(0, 3));
        e.each("near(0, %d) = BAD", Edge.outside(0, 9)).due("near(3, 0) = 1", "near(3, 9) = 4");
        e.shed("w36 p1").each("near(%d, 9) = BAD", Edge.outside(0, 215)).due("near(215, 9) = 216");
    }

    // ---- 38 lots

    /** The i-th number of a seed, from 1 on, not by going from one to the next. */
    private static long lot(int seed, int i) {
        BigInteger times = BigInteger.valueOf(48271).modPow(BigInteger.valueOf(i), PRIME);
        return times.multiply(BigInteger.valueOf(seed)).mod(PRIME).longValueExact();
    }

    /** Where each WAY of p3, e3, b1, l1 brings one WHEEL of six NOTCHES from a CODE, lesser ones ahead. */
    private static List<Integer> sights(int p, int code) {
        int[][] turns = {{1, 2, 3}, {1, 2, 3, -1, -2, -3}, {0, 1, 2, 3, 4, 5}, {0, 1}};
        List<Integer> all = new ArrayList<>();
        for (int by : turns[p]) {
            all.add(Math.floorMod(code + by, 6));
        }
        Collections.sort(all);
        return all;
    }

    /** lots(n, seed), held against LOOKS that are told one by one. */
    private static void lots(Edge e, int n, int seed) {
        int code = (int) (lot(seed, 1) % 6);
        TurnedLock other = Check.shedOf("w16 p3 e3 b1 l1");
        for (int i = 0; i < n; i++) {
            int p = (int) (lot(seed, 2 + 2 * i) / 16 % 4);
            List<Integer> ways = sights(p, code);
            other.look(p, ways.get((int) (lot(seed, 3 + 2 * i) / 32 % ways.size())));
        }
        e.shed("w16 p3 e3 b1 l1").due("lots(" + n + ", " + seed + ") = " + code, "count(5) = " + n);
        e.check("the LOOKS of lots(" + n + ", " + seed + ")", e.digest(), other.digest());
    }

    @Says({"A CODE is drawn by LOTS of a seed (a number comes from the one ahead by 48271 times it modulo 2147483647,",
        "the first from the seed (1 .. 2147483646); it is the number modulo how many SETTINGS there are),"})
    static void promise38_firstAndLastSeed(Edge e) {
        // 48271 and 2147483647 - 48271 modulo 6 and 216.
        e.shed("w16 p1").due("lots(1, 1) = 1", "lots(1, 2147483646) = 0").shed("w36 p1")
                .due("lots(1, 1) = 103", "lots(1, 2147483646) = 96");
        e.due("lots(1, 2) = 206", "lots(1, 2147483645) = 209");
        for (int seed : new int[] {1, 2, 3, 44488, 44489, 2147483645, 2147483646, 1073741823, 1073741824}) {
            lots(e, 8, seed);
        }
    }

    @Says("then n (1 .. 8) PERSONS are LOOKED at truly:")
    static void promise38_oneToEight(Edge e) {
        for (int n = 1; n <= 8; n++) {
            lots(e, n, 4711);
            lots(e, n, 20261118);
        }
        TurnedLock x = Check.shedOf("w36 p2 e3 a1 o2 l1");
        for (int seed = 1; seed <= 40; seed++) {
            int code = x.lots(8, seed);
            e.check("a CODE", code, lot(seed, 1) % 216).check("it can be", x.likely(code), 1);
            e.check("LOOKS are true", x.upper() > 0 ? 1 : 0, 1).check("eight DEEDS", x.count(5), 8);
        }
    }

    @Says({"each that is the next number by 16, cut, modulo how many there are;",
        "what is SEEN is where the WAY brings it that is the next number by 32, cut, modulo how many WAYS it has",
        "(WAYS go by SETTINGS to which they bring it, lesser ones ahead; of alike ones each): the CODE."})
    static void promise38_eachWay(Edge e) {
        for (int seed = 100; seed < 160; seed++) {
            lots(e, 2, seed);
        }
    }

    @Says("All WEIGHTS are 1 again ahead (no DEEDS).")
    static void promise38_anew(Edge e) {
        e.shed("w14 p1 b1").due("lots(3, 5) = 3");
        long due = e.digest();
        e.shed("w14 p1 b1").due("vain(3) = 3", "look(0, 1) = 1", "lots(3, 5) = 3");
        e.check("as on a new one", e.digest(), due).shed("w14 p1 b1").due("keep(1) = 0");
        for (int i = 0; i < 15; i++) {
            e.due("look(1, 0) = 4");
        }
        e.due("vain(3) = 3", "count(5) = 16", "lots(3, 5) = 3", "count(5) = 3", "count(9) = 1", "on(1) = 0",
                "count(4) = 4");
        e.due("lots(3, 5) = 3", "shed(3) = 2", "lots(3, 5) = 3").check("as on a new one", e.digest(), due);
        e.due("flicks(0, 1) = STATE", "undo(0) = 3", "flicks(0, 3) = 1", "lots(1, 5) = 3",
                "person(0, 1) = 1 asked 3");
    }

    @Says("BAD; STATE: no PERSONS.")
    static void promise38_refused(Edge e) {
        e.fresh().due("lots(1, 1) = STATE", "lots(8, 2147483646) = STATE")
                .each("lots(%d, 1) = BAD", Edge.outside(1, 8));
        e.each("lots(1, %d) = BAD", 0, -1, Integer.MIN_VALUE, Integer.MAX_VALUE, -2147483647);
        e.shed("w14 b1").due("vain(0) = 3").each("lots(%d, 1) = BAD", Edge.outside(1, 8));
        e.each("lots(1, %d) = BAD", 0, -1, Integer.MIN_VALUE, Integer.MAX_VALUE, -2147483647).due("count(5) = 1");
        e.due("lots(1, 1) = 3", "lots(8, 2147483646) = 0", "count(5) = 8");
    }
}
