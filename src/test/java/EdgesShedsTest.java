/** Boundary cases of promises 8 to 14: texts, sheds, persons. */
final class EdgesShedsTest {
    public static void main(String[] args) {
        Edge.runAll(EdgesShedsTest.class);
    }

    // ---- 8 text

    @Says("A TEXT is there with n blanks: n.")
    static void promise08_ofEachSize(Edge e) {
        for (int n = 0; n <= 60; n++) {
            e.fresh().due("text(3, " + n + ") = " + n, "count(8) = 1");
            for (int i = 0; i < n; i++) {
                e.due("put(3, " + i + ", 65) = 1032");
            }
            e.due("put(3, " + n + ", 65) = BEYOND");
        }
    }

    @Says("A TEXT is there with n blanks: n.")
    static void promise08_anew(Edge e) {
        e.fresh().text(0, "abc").due("text(0, 3) = 3", "put(0, 0, 1) = 1032", "put(0, 2, 1) = 1032");
        e.text(0, "abc").due("text(0, 2) = 2", "put(0, 2, 1) = BEYOND", "text(0, 3) = 3", "put(0, 2, 1) = 1032");
        e.text(0, "abc").due("text(0, 0) = 0", "put(0, 0, 1) = BEYOND", "text(0, 60) = 60", "put(0, 0, 1) = 1032");
        e.due("put(0, 59, 1) = 1032", "count(8) = 1");
    }

    @Says("BAD: also n above 60;")
    static void promise08_above60(Edge e) {
        e.fresh().text(0, "a").due("text(0, 61) = BAD", "text(0, 62) = BAD", "text(0, 256) = BAD",
                "text(0, MAX) = BAD");
        e.due("put(0, 0, 0) = 1097", "text(0, 59) = 59", "text(0, 60) = 60", "put(0, 59, 0) = 1032",
                "put(0, 60, 0) = BEYOND");
    }

    @Says("BAD: also n above 60;")
    static void promise08_noSuchText(Edge e) {
        e.fresh().each("text(%d, 1) = BAD", Edge.outside(0, 3)).each("text(%d, 61) = BAD", Edge.outside(0, 3));
        e.due("text(0, 1) = 1", "text(3, 1) = 1", "count(8) = 2");
    }

    @Says("SIZE: below 0.")
    static void promise08_below0(Edge e) {
        e.fresh().text(0, "a").due("text(0, -1) = SIZE", "text(0, -2) = SIZE", "text(0, -60) = SIZE",
                "text(0, MIN) = SIZE");
        e.due("put(0, 0, 0) = 1097", "text(0, 0) = 0", "text(1, -1) = SIZE", "count(8) = 1", "text(4, -1) = BAD");
    }

    // ---- 9 put

    @Says({"Byte i of a TEXT is v, cut to a byte:", "what it was, and 1000 more."})
    static void promise09_cut(Edge e) {
        e.fresh().due("text(3, 1) = 1", "put(3, 0, 126) = 1032", "put(3, 0, 127) = 1126", "put(3, 0, 128) = 1127");
        e.due("put(3, 0, 129) = 872", "put(3, 0, 255) = 873", "put(3, 0, 256) = 999", "put(3, 0, 257) = 1000");
        e.due("put(3, 0, -1) = 1001", "put(3, 0, -127) = 999", "put(3, 0, -128) = 873", "put(3, 0, -129) = 872");
        e.due("put(3, 0, MIN) = 1127", "put(3, 0, MAX) = 1000", "put(3, 0, 65535) = 999", "put(3, 0, 65536) = 999");
        e.due("put(3, 0, -256) = 1000", "put(3, 0, -257) = 1000", "put(3, 0, 0) = 999", "put(3, 0, 0) = 1000");
    }

    @Says("Byte i of a TEXT is v,")
    static void promise09_firstAndLastPlace(Edge e) {
        e.fresh().due("text(0, 60) = 60", "text(1, 1) = 1", "put(0, 0, 65) = 1032", "put(0, 59, 66) = 1032");
        e.due("put(0, 0, 1) = 1065", "put(0, 59, 1) = 1066", "put(0, 1, 1) = 1032", "put(0, 58, 1) = 1032");
        e.due("put(1, 0, 1) = 1032");
    }

    @Says("BAD; NOTHING; BEYOND.")
    static void promise09_refused(Edge e) {
        e.fresh().each("put(%d, 0, 1) = BAD", Edge.outside(0, 3)).each("put(%d, 0, 1) = NOTHING", 0, 1, 2, 3);
        e.due("put(0, -1, 1) = NOTHING", "put(0, 60, 1) = NOTHING").text(0, "abc").text(3, "z");
        e.each("put(%d, 9, 1) = BAD", Edge.outside(0, 3)).each("put(0, %d, 1) = BEYOND", Edge.outside(0, 2));
        e.due("put(0, 2, 1) = 1099", "put(0, 0, 1) = 1097", "put(3, 0, 1) = 1122", "put(3, 1, 1) = BEYOND");
        e.text(0, "").each("put(0, %d, 1) = BEYOND", -1, 0, 1);
        e.due("text(0, 60) = 60").each("put(0, %d, 1) = BEYOND", Edge.outside(0, 59));
    }

    // ---- 10 fault

    @Says("A FAULT of a TEXT;")
    static void promise10_firstAndLastPlace(Edge e) {
        e.fresh().text(0, "x").due("fault(0) = 0").text(0, "").due("fault(0) = 0").text(0, "w").due("fault(0) = 1");
        e.due("text(3, 60) = 60", "fault(3) = 60", "put(3, 59, 120) = 1032", "fault(3) = 59",
                "put(3, 58, 120) = 1032");
        e.due("fault(3) = 58", "put(3, 59, 32) = 1120", "fault(3) = 58", "put(3, 58, 119) = 1120", "fault(3) = 59");
    }

    @Says("A FAULT of a TEXT;")
    static void promise10_eachItem(Edge e) {
        String[] signs = {"w04p1", "w44p1", "w13p1", "w17p1", " w17p1", "w14q1", "w14 p0", "w14 p4", "w14p1p1p1p1p1",
            "w14p1p1p1p1p1p1", "w14p1p1p1p1p1 x", "w14", "w36l3", "w14a1"};
        int none = TurnedLock.NONE;
        int[] due = {1, 1, 2, 2, 3, 3, 5, 5, none, 13, 14, 3, none, none};
        for (int i = 0; i < signs.length; i++) {
            e.fresh().text(1, signs[i]).due("fault(1) = " + due[i]);
        }
    }

    @Says("NONE: there is none.")
    static void promise10_none(Edge e) {
        e.fresh().text(2, "w14p1").due("fault(2) = NONE", "count(0) = 0", "put(2, 4, 52) = 1049", "fault(2) = 4");
        e.due("put(2, 4, 51) = 1052", "fault(2) = NONE");
    }

    @Says("BAD; NOTHING.")
    static void promise10_refused(Edge e) {
        e.fresh().each("fault(%d) = BAD", Edge.outside(0, 3)).each("fault(%d) = NOTHING", 0, 1, 2, 3);
        e.text(3, "w14p1").due("fault(3) = NONE", "fault(2) = NOTHING", "fault(4) = BAD");
    }

    // ---- 11 shed

    @Says("A SHED by a TEXT")
    static void promise11_leastAndMost(Edge e) {
        e.fresh().text(0, "w14p1").due("shed(0) = 1", "count(0) = 1", "count(1) = 1", "count(2) = 4", "count(3) = 4");
        e.text(3, "w36l3o3b3a3e3").due("shed(3) = 5", "count(0) = 5", "count(1) = 3", "count(2) = 6",
                "count(3) = 216");
        e.due("person(4, 0) = 1 asked 1", "person(0, 0) = 1 asked 5", "person(4, 1) = 1 asked 3", "count(4) = 216");
        e.due("shed(0) = 1", "person(1, 0) = BAD", "likely(4) = BAD", "wheel(1, 0) = BAD", "wheel(0, 4) = BAD");
        e.due("likely(3) = 1 told 1/4", "best() = 0 asked 4", "count(6) = 0");
    }

    @Says({"(anew: all WEIGHTS 1, no DEEDS; kept SHEDS go):", "how many PERSONS."})
    static void promise11_anew(Edge e) {
        e.shed("w24 p1 e2").due("flicks(0, 3) = 1", "look(1, 2) = 3", "vain(0) = 2", "keep(0) = 2", "keep(1) = 2",
                "keep(2) = 2");
        e.due("count(9) = 3", "shed(3) = 2", "count(5) = 0", "count(4) = 16", "count(9) = 0");
        e.each("on(%d) = NOTHING", 0, 1, 2).each("likely(%d) = 1 told 1/16", 0, 1, 2, 15);
        e.due("person(0, 1) = 1 asked 1", "person(1, 3) = 1 asked 0", "undo(0) = 0", "undo(1) = BAD",
                "flicks(1, 1) = 2");
    }

    @Says("A SHED by a TEXT")
    static void promise11_behindAnother(Edge e) {
        for (String signs : new String[] {"w14 a1 l1 o1 e1 b1", "w24 a1 l1 o1 e1 p1", "w15 l2 a2 b1", "w26 o3"}) {
            TurnedLock x = Check.shedOf("w36 b3 o3 l3 a3 e3");
            x.look(1, 129);
            x.keep(0);
            Check.write(x, 3, signs);
            x.shed(3);
            TurnedLock alone = Check.shedOf(signs);
            e.check(signs + " as on a new object", x.digest(), alone.digest());
            e.check("PERSONS of " + signs, personsOf(x), personsOf(alone));
        }
    }

    /** All that is told of the PERSONS of an object, in one number. */
    private static long personsOf(TurnedLock x) {
        long h = x.whose();
        for (int p = 0; p < x.count(0); p++) {
            for (int what = 0; what <= 2; what++) {
                h = 31 * (31 * h + x.person(p, what)) + x.asked();
            }
            for (int kind = 1; kind <= 5; kind++) {
                h = 31 * h + x.mark(p, kind);
            }
            h = 31 * (31 * (31 * h + x.worth(p)) + x.upper()) + x.lower();
            h = 31 * (31 * h + x.sights(p)) + x.asked();
            for (int s = 0; s < x.count(3); s++) {
                h = 31 * (31 * h + x.ways(p, 0, s)) + x.ways(p, s, 1);
                h = 31 * (31 * (31 * h + x.seen(p, s)) + x.upper()) + x.lower();
            }
        }
        return h;
    }

    @Says("A SHED by a TEXT")
    static void promise11_theTextMayGo(Edge e) {
        e.shed("w14 p1").due("text(3, 2) = 2", "count(0) = 1", "best() = 0 asked 4", "shed(3) = STATE",
                "count(0) = 1");
    }

    @Says({"BAD; NOTHING; STATE: a FAULT.", "(STATE behind NOTHING.)"})
    static void promise11_refused(Edge e) {
        e.fresh().each("shed(%d) = BAD", Edge.outside(0, 3)).each("shed(%d) = NOTHING", 0, 1, 2, 3);
        e.text(0, "w14p").text(1, "").text(2, "w14p1e").due("shed(0) = STATE", "shed(1) = STATE", "shed(2) = STATE");
        e.due("count(0) = 0", "best() = STATE", "shed(3) = NOTHING").text(3, "w14p1")
                .due("shed(3) = 1", "look(0, 0) = 1");
        e.due("keep(0) = 1", "shed(0) = STATE", "shed(1) = STATE", "shed(2) = STATE", "shed(4) = BAD",
                "count(5) = 1");
        e.due("count(9) = 1", "on(0) = 1", "text(0, 5) = 5", "shed(0) = STATE", "certain() = 1 asked 3");
    }

    // ---- 12 person

    @Says("Of a PERSON: 0 the KIND, 1 FLICKS,")
    static void promise12_kindAndFlicks(Edge e) {
        String letters = "peabol";
        for (int kind = 0; kind <= 5; kind++) {
            for (int f = 1; f <= 3; f++) {
                e.shed("w36 " + letters.charAt(kind) + f).due("person(0, 0) = 1 asked " + kind,
                        "person(0, 1) = 1 asked " + f);
            }
        }
    }

    @Says("2 how many WAYS it has,")
    static void promise12_ways(Edge e) {
        for (int f = 1; f <= 3; f++) {
            for (int w = 1; w <= 3; w++) {
                int wheels = Math.min(w, 2);
                e.shed("w" + w + "4 p" + f + " e" + f + " a" + f + " o" + f + " l" + f);
                e.due("person(0, 2) = 1 asked " + f, "person(1, 2) = 1 asked " + 2 * f,
                        "person(2, 2) = 1 asked " + w * f);
                e.due("person(3, 2) = 1 asked " + (int) Math.pow(2 * f, wheels));
                e.due("person(4, 2) = 1 asked " + (int) Math.pow(f + 1, w));
            }
        }
        e.shed("w14 b1").due("person(0, 2) = 1 asked 4").shed("w36 b3").due("person(0, 2) = 1 asked 216");
    }

    @Says("3 how often it was LOOKED at, told by asked(): 1.")
    static void promise12_looks(Edge e) {
        e.shed("w14 b1 b2").due("person(0, 3) = 1 asked 0");
        for (int i = 1; i <= 16; i++) {
            e.due("look(0, 0) = 4", "person(0, 3) = 1 asked " + i, "person(1, 3) = 1 asked 0");
        }
        e.due("look(0, 0) = FULL", "person(0, 3) = 1 asked 16", "undo(15) = 1", "person(0, 3) = 1 asked 15");
        e.due("vain(0) = 3", "person(0, 3) = 1 asked 15", "undo(1) = 15", "look(1, 0) = 4",
                "person(0, 3) = 1 asked 1");
        e.due("person(1, 3) = 1 asked 1", "keep(0) = 2", "undo(0) = 2", "person(0, 3) = 1 asked 0");
        e.due("on(0) = 2", "person(0, 3) = 1 asked 1", "person(1, 3) = 1 asked 1");
    }

    @Says("BAD.")
    static void promise12_bad(Edge e) {
        e.fresh().each("person(%d, 0) = BAD", -1, 0, 1).shed("w14 p1 e2");
        e.each("person(%d, 0) = BAD", Edge.outside(0, 1)).each("person(0, %d) = BAD", Edge.outside(0, 3));
        e.due("person(1, 3) = 1 asked 0", "person(0, 0) = 1 asked 0", "person(1, 4) = BAD", "person(2, 3) = BAD");
    }

    // ---- 13 mark

    @Says({"What a PERSON that IS of a KIND tells: an EITHER (BOTH, too)",
            "how many unlike SETTINGS can be SEEN from one CODE,"})
    static void promise13_either(Edge e) {
        int[][] due = {{2, 3, 3}, {2, 4, 4}, {2, 4, 5}};
        for (int n = 4; n <= 6; n++) {
            for (int f = 1; f <= 3; f++) {
                int many = due[n - 4][f - 1];
                e.shed("w1" + n + " e" + f + " o" + f).due("mark(0, 1) = " + many, "mark(1, 1) = " + many);
                e.shed("w2" + n + " e" + f + " o" + f).due("mark(0, 1) = " + many, "mark(1, 1) = " + many * many);
                e.shed("w3" + n + " e" + f + " o" + f).due("mark(0, 1) = " + many, "mark(1, 1) = " + many * many);
            }
        }
    }

    @Says("an ANY (ALL, too) how many WAYS it has that leave WHEEL 0 as it is,")
    static void promise13_any(Edge e) {
        for (int f = 1; f <= 3; f++) {
            e.shed("w14 a" + f + " l" + f).due("mark(0, 2) = 0", "mark(1, 2) = 1");
            e.shed("w25 a" + f + " l" + f).due("mark(0, 2) = " + f, "mark(1, 2) = " + (f + 1));
            e.shed("w36 a" + f + " l" + f).due("mark(0, 2) = " + 2 * f, "mark(1, 2) = " + (f + 1) * (f + 1));
        }
    }

    @Says("a BLIND one how many SETTINGS have a WEIGHT above 0,")
    static void promise13_blind(Edge e) {
        e.shed("w14 b1 p1").due("mark(0, 3) = 4", "vain(0) = 3", "mark(0, 3) = 3", "look(1, 0) = 1",
                "mark(0, 3) = 1");
        e.due("vain(3) = NOUGHT", "mark(0, 3) = 1", "undo(0) = 2", "mark(0, 3) = 4").shed("w36 b1")
                .due("mark(0, 3) = 216");
    }

    @Says("a BOTH how many WHEELS it turns,")
    static void promise13_both(Edge e) {
        e.shed("w14 o3").due("mark(0, 4) = 1").shed("w24 o1").due("mark(0, 4) = 2").shed("w36 o2")
                .due("mark(0, 4) = 2");
    }

    @Says("an ALL how many NOTCHES it turns in all its WAYS, all WHEELS together.")
    static void promise13_all(Edge e) {
        int[][] due = {{1, 3, 6}, {4, 18, 48}, {12, 81, 288}};
        for (int w = 1; w <= 3; w++) {
            for (int f = 1; f <= 3; f++) {
                e.shed("w" + w + "4 l" + f).due("mark(0, 5) = " + due[w - 1][f - 1]);
                e.shed("w" + w + "6 l" + f).due("mark(0, 5) = " + due[w - 1][f - 1]);
            }
        }
    }

    @Says({"BAD: also KIND 0;", "UNLIKE."})
    static void promise13_refused(Edge e) {
        e.fresh().due("mark(0, 1) = BAD").shed("w24 p1 e1 a1 b1 o1").each("mark(0, %d) = BAD", 0);
        e.each("mark(1, %d) = BAD", Edge.outside(1, 5)).each("mark(%d, 1) = BAD", Edge.outside(0, 4));
        e.each("mark(0, %d) = UNLIKE", 1, 2, 3, 4, 5).each("mark(1, %d) = UNLIKE", 2, 3, 4, 5);
        e.each("mark(2, %d) = UNLIKE", 1, 3, 4, 5).each("mark(3, %d) = UNLIKE", 1, 2, 4, 5);
        e.each("mark(4, %d) = UNLIKE", 2, 3, 5).shed("w24 l1").each("mark(0, %d) = UNLIKE", 1, 3, 4);
        e.due("mark(0, 0) = BAD", "mark(0, 6) = BAD", "mark(1, 2) = BAD", "mark(0, 2) = 2", "mark(0, 5) = 4");
    }

    // ---- 14 flicks

    @Says("FLICKS of a PERSON are v (1 .. 3): what they were.")
    static void promise14_oneToThree(Edge e) {
        e.shed("w36 p2 e3").due("flicks(0, 1) = 2", "person(0, 1) = 1 asked 1", "person(0, 2) = 1 asked 1",
                "ways(0, 0, 2) = 0");
        e.due("flicks(0, 3) = 1", "person(0, 1) = 1 asked 3", "person(0, 2) = 1 asked 3", "ways(0, 0, 3) = 1");
        e.due("flicks(0, 3) = 3", "flicks(1, 1) = 3", "person(1, 1) = 1 asked 1", "person(0, 1) = 1 asked 3");
        e.due("ways(1, 0, 3) = 0", "worth(1) = 1 told 1/2", "flicks(1, 3) = 1", "ways(1, 0, 3) = 2",
                "worth(1) = 1 told 1/3");
        e.due("look(1, 0) = 5").shed("w14 b1").due("flicks(0, 3) = 1", "person(0, 2) = 1 asked 4");
    }

    @Says("FLICKS of a PERSON are v (1 .. 3): what they were.")
    static void promise14_asIfFromTheFirst(Edge e) {
        for (String wheels : new String[] {"w14 ", "w15 ", "w24 ", "w26 ", "w34 "}) {
            for (int each = 0; each < 6 * 9; each++) {
                char letter = "peabol".charAt(each / 9);
                int from = 1 + each / 3 % 3;
                int to = 1 + each % 3;
                TurnedLock x = Check.shedOf(wheels + letter + from);
                e.check("flicks(0, " + to + ")", x.flicks(0, to), from);
                TurnedLock due = Check.shedOf(wheels + letter + to);
                e.check(wheels + letter + from + " with FLICKS " + to, personsOf(x), personsOf(due));
            }
        }
    }

    @Says("BAD; STATE: there are DEEDS.")
    static void promise14_refused(Edge e) {
        e.fresh().due("flicks(0, 1) = BAD").shed("w14 p2 e1").each("flicks(0, %d) = BAD", Edge.outside(1, 3));
        e.each("flicks(%d, 1) = BAD", Edge.outside(0, 1)).due("flicks(1, 3) = 1", "flicks(1, 4) = BAD",
                "flicks(1, 0) = BAD");
        e.due("vain(0) = 3", "flicks(0, 1) = STATE", "flicks(0, 2) = STATE", "flicks(0, 4) = BAD",
                "flicks(2, 1) = BAD");
        e.due("undo(0) = 1", "flicks(0, 1) = 2", "look(0, 0) = 1", "flicks(0, 2) = STATE", "undo(1) = 0",
                "flicks(1, 1) = STATE");
        e.due("undo(0) = 1", "flicks(1, 1) = 3", "lots(1, 1) = 3", "flicks(1, 1) = STATE");
    }
}
