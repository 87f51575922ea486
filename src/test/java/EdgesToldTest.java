/** Boundary cases of promises 39 to 45: what is told. */
final class EdgesToldTest {
    public static void main(String[] args) {
        Edge.runAll(EdgesToldTest.class);
    }

    // ---- 39 asked

    @Says("What the latest lay(), at(), mean(), person(), best(), certain(), whose(), sights(), fits(), who(), apart()")
    static void promise39_eachOfThese(Edge e) {
        e.shed("w25 b1 p2").row(0, 8, 9).row(1, 1, 0).due("lay(0, 0, 7) = 1", "asked() = 8", "at(0, 1) = 1",
                "asked() = 9");
        e.due("mean(0) = 1", "asked() = 8", "person(1, 2) = 1", "asked() = 2", "best() = 0", "asked() = 25");
        e.due("certain() = 0", "asked() = 99", "whose() = 1", "asked() = 0", "fits(1) = 2", "asked() = 3");
        e.due("sights(1) = 25", "asked() = 0", "who(0, 2) = 3", "asked() = 1", "apart(0, 24) = 2", "asked() = 2");
        e.due("lay(0, 0, 1) = 1", "asked() = 7", "who(0, 0) = 1", "asked() = 0");
    }

    @Says("What the latest lay(), at(), mean(), person(), best(), certain(), whose(), sights(), fits(), who(), apart()")
    static void promise39_noOthers(Edge e) {
        e.shed("w14 b1 p1 o1 e1 l1").row(0, 77).row(1, 1, 0).due("at(0, 0) = 1 asked 77");
        // due() itself looks whether asked() is as it was.
        e.due("row(2, 3) = 3", "copy(0, 0, 2, 0, 1) = 1", "text(0, 5) = 5", "put(0, 0, 9) = 1032", "fault(0) = 0",
                "fault(3) = NONE");
        e.due("mark(0, 3) = 4", "mark(2, 1) = 2", "flicks(0, 2) = 1", "likely(0) = 1", "wheel(0, 0) = 1",
                "order(3, 2) = 3");
        e.due("tries() = 1", "within(1) = 1", "worth(1) = 1", "seen(1, 0) = 1", "chance(1) = 1", "read(1) = 3",
                "ways(1, 0, 1) = 1");
        e.due("near(0, 1) = 3", "keep(0) = 0", "look(1, 0) = 1", "vain(0) = 1", "undo(0) = 2", "on(0) = 0",
                "lots(1, 1) = 3");
        e.due("count(0) = 5", "finding() = 0", "findings(1) = 0", "upper() = 1", "tear(2) = 1", "shed(3) = 5",
                "asked() = 77");
    }

    @Says({"that was not refused told;", "0 before."})
    static void promise39_refusedAndBefore(Edge e) {
        e.fresh().due("asked() = 0", "at(0, 0) = NOTHING", "best() = STATE", "person(0, 0) = BAD", "asked() = 0");
        e.shed("w14 p1").row(0, 77).row(1).due("asked() = 0", "at(0, 0) = 1 asked 77", "lay(0, 1, 5) = BEYOND",
                "lay(6, 0, 5) = BAD");
        e.due("at(0, 1) = BEYOND", "at(2, 0) = NOTHING", "mean(1) = NOUGHT", "mean(2) = NOTHING",
                "person(0, 4) = BAD");
        e.due("sights(1) = BAD", "fits(0) = SIZE", "fits(2) = NOTHING", "who(0, 4) = BAD", "apart(4, 0) = BAD",
                "asked() = 77");
        e.fresh().row(0, 78).due("at(0, 0) = 1 asked 78", "best() = STATE", "certain() = STATE", "whose() = STATE",
                "fits(0) = STATE");
        e.due("asked() = 78");
    }

    // ---- 40 upper, 41 lower

    @Says({"The upper number that was told last;", "0 before."})
    static void promise40_lastAndBefore(Edge e) {
        e.fresh().due("upper() = 0", "likely(0) = BAD", "tries() = STATE", "upper() = 0").shed("w16 p2")
                .due("upper() = 0");
        e.due("tries() = 1", "upper() = 7", "likely(6) = BAD", "wheel(1, 0) = BAD", "within(217) = BAD",
                "worth(1) = BAD");
        e.due("seen(0, 6) = BAD", "chance(0) = NOTHING", "best() = 0", "upper() = 7", "within(5) = 1", "upper() = 5",
                "within(0) = 1");
        e.due("upper() = 0", "shed(3) = 1", "wheel(0, 0) = 1", "upper() = 1", "undo(0) = 0", "upper() = 1");
    }

    @Says({"Its lower number;", "1 before."})
    static void promise41_lastAndBefore(Edge e) {
        e.fresh().due("lower() = 1", "likely(0) = BAD", "tries() = STATE", "lower() = 1").shed("w16 p2")
                .due("lower() = 1");
        e.due("likely(5) = 1", "lower() = 6", "likely(6) = BAD", "wheel(0, 6) = BAD", "within(-1) = BAD",
                "worth(-1) = BAD");
        e.due("seen(1, 0) = BAD", "chance(6) = BAD", "lower() = 6", "within(0) = 1", "lower() = 1", "worth(0) = 1",
                "lower() = 2");
        e.row(0, 0, 0).due("chance(0) = 1", "lower() = 6", "within(6) = 1", "lower() = 1");
    }

    // ---- 42 count

    @Says({"0 PERSONS, 1 WHEELS, 2 NOTCHES, 3 SETTINGS (each 0 without PERSONS),", "BAD."})
    static void promise42_withoutPersons(Edge e) {
        e.fresh().each("count(%d) = 0", 0, 1, 2, 3, 4, 5, 6, 7, 8, 9).each("count(%d) = BAD", Edge.outside(0, 9));
        e.text(0, "w36").due("shed(0) = STATE").each("count(%d) = 0", 0, 1, 2, 3, 4, 5, 6).due("count(8) = 1");
        e.shed("w14 p1").due("count(0) = 1", "count(1) = 1", "count(2) = 4", "count(3) = 4")
                .each("count(%d) = BAD", Edge.outside(0, 9));
    }

    @Says({"4 how many have a WEIGHT above 0, 5 DEEDS, 6 ANY ones (ALL, too),",
        "7 ROWS, 8 TEXTS that are there, 9 kept SHEDS."})
    static void promise42_leastAndMost(Edge e) {
        e.shed("w36 a1 l1 a2 l2 a3").due("count(0) = 5", "count(1) = 3", "count(2) = 6", "count(3) = 216",
                "count(4) = 216", "count(6) = 5");
        for (int r = 0; r < 6; r++) {
            e.due("count(7) = " + r, "row(" + r + ", 0) = 0");
        }
        for (int t = 0; t < 3; t++) {
            e.due("count(8) = " + (t + 1), "text(" + t + ", 0) = 0");
        }
        for (int k = 0; k < 3; k++) {
            e.due("count(9) = " + k, "keep(" + k + ") = 0", "keep(" + k + ") = 0");
        }
        e.due("count(7) = 6", "count(8) = 4", "count(9) = 3", "row(0, 1) = 1", "text(0, 1) = 1", "count(7) = 6",
                "count(8) = 4");
        e.due("tear(5) = 1", "count(7) = 5", "shed(3) = 5", "count(9) = 0");
        e.shed("w14 p1 e1 b1 o1 a1").due("count(6) = 1").shed("w14 l1 p1").due("count(6) = 1").shed("w14 o1 p1 e1 b1")
                .due("count(6) = 0");
        for (int i = 0; i < 16; i++) {
            e.due("count(5) = " + i, "count(4) = " + (i == 0 ? 4 : 3), "vain(0) = 3");
        }
        e.due("count(5) = 16", "vain(0) = FULL", "count(5) = 16", "undo(13) = 3", "vain(1) = 2", "vain(2) = 1",
                "count(4) = 1");
    }

    // ---- 43 finding, 44 findings

    @Says("The latest FINDING (0 before any).")
    static void promise43_latestAndBefore(Edge e) {
        e.fresh().due("finding() = 0", "row(6, 0) = BAD", "best() = STATE", "row(0, 0) = 0", "finding() = 0",
                "mean(0) = NOUGHT");
        e.due("finding() = 4", "at(0, 0) = BEYOND", "finding() = 2", "tear(1) = NOTHING", "finding() = 1",
                "row(0, -1) = SIZE");
        e.due("finding() = 5", "row(0, 41) = BAD", "row(0, 1) = 1", "mean(0) = 1", "finding() = 5", "best() = STATE",
                "finding() = 5");
        e.text(0, "w14p1").due("shed(0) = 1", "finding() = 5", "mark(0, 5) = UNLIKE", "finding() = 3",
                "findings(6) = BAD", "finding() = 3");
    }

    @Says({"How often a FINDING (1 .. 5) was answered.", "BAD."})
    static void promise44_oneToFive(Edge e) {
        e.fresh().each("findings(%d) = 0", 1, 2, 3, 4, 5).each("findings(%d) = BAD", Edge.outside(1, 5))
                .due("findings(0) = BAD");
        e.shed("w14 p1").row(0).due("tear(1) = NOTHING", "at(0, 0) = BEYOND", "at(0, 1) = BEYOND",
                "mark(0, 1) = UNLIKE");
        e.due("mark(0, 2) = UNLIKE", "mark(0, 3) = UNLIKE", "mean(0) = NOUGHT", "mean(0) = NOUGHT",
                "mean(0) = NOUGHT");
        e.due("mean(0) = NOUGHT", "row(0, -1) = SIZE", "row(0, -1) = SIZE", "row(0, -1) = SIZE", "row(0, -1) = SIZE",
                "text(0, -1) = SIZE");
        e.due("findings(1) = 1", "findings(2) = 2", "findings(3) = 3", "findings(4) = 4", "findings(5) = 5",
                "findings(6) = BAD");
        e.due("shed(3) = 1", "findings(5) = 5").each("findings(%d) = BAD", Edge.outside(1, 5));
    }

    @Says("How often a FINDING (1 .. 5) was answered.")
    static void promise44_upToTheLastCall(Edge e) {
        for (int f = 1; f <= 5; f += 4) {
            TurnedLock x = new TurnedLock();
            for (int i = 0; i < 511; i++) {
                e.check("call " + i, f == 1 ? x.tear(i % 6) : x.row(i % 6, -1 - i), TurnedLock.FINDING);
            }
            e.check("call 512: findings(" + f + ")", x.findings(f), 511);
        }
    }

    // ---- 45 digest

    private static long digestOf(long... numbers) {
        long h = 17;
        for (long v : numbers) {
            h = 31 * h + v;
        }
        return h;
    }

    private static Edge is(Edge e, String what, long... numbers) {
        return e.check("digest() " + what, e.digest(), digestOf(numbers)).due("digest() = " + digestOf(numbers));
    }

    @Says({"h = 17; then h = 31 h + v for each v: count() 0 to 9;",
            "of each ROW its size (-1: missing) and places, of each TEXT likewise."})
    static void promise45_rowsAndTexts(Edge e) {
        is(e.fresh(), "of a new object", 0, 0, 0, 0, 0, 0, 0, 0, 0, 0, -1, -1, -1, -1, -1, -1, -1, -1, -1, -1, -1, -1,
                -1);
        is(e.fresh().row(0).text(3, ""), "of empty ones", 0, 0, 0, 0, 0, 0, 0, 1, 1, 0, -1, -1, -1,
                0, -1, -1, -1, -1, -1, -1, -1, -1, 0);
        is(e.fresh().row(5, Integer.MIN_VALUE, 3).text(0, "\u00ffw"), "of full ones", 0, 0, 0, 0, 0, 0, 0, 1, 1, 0,
                -1, -1, -1,
                -1, -1, -1, -1, -1, 2, Integer.MIN_VALUE, 3, 2, -1, 119, -1, -1, -1);
        e.row(5, 9).due("tear(5) = 1");
        is(e.text(0, ""), "of a row that was torn", 0, 0, 0, 0, 0, 0, 0, 0, 1, 0, -1, -1, -1, -1, -1, -1, -1, -1, -1,
                0, -1, -1, -1);
    }

    @Says({"of each SETTING its WEIGHT; of each PERSON person() 0 to 3;",
            "of each kept SHED how many DEEDS (-1: missing);"})
    static void promise45_weightsPersonsKept(Edge e) {
        e.shed("w14 e3 a1").due("text(3, 0) = 0", "keep(1) = 0", "look(0, 0) = 3", "keep(2) = 1", "vain(3) = 2",
                "look(0, 0) = 2");
        is(e, "of a SHED", 2, 1, 4, 4, 2, 3, 1, 0, 1, 2, 0, 4, 4, 0, 1, 3, 6, 2, 2, 1, 1, 0, -1, 0, 1,
                -1, -1, -1, -1, -1, -1, -1, -1, -1, 0);
        e.due("undo(0) = 3", "keep(0) = 0", "flicks(1, 3) = 1");
        is(e, "of it undone", 2, 1, 4, 4, 4, 0, 1, 0, 1, 3, 1, 1, 1, 1, 1, 3, 6, 0, 2, 3, 3, 0, 0, 0, 1,
                -1, -1, -1, -1, -1, -1, -1, -1, -1, 0);
    }

    @Says("of each SETTING its WEIGHT;")
    static void promise45_greatestWeights(Edge e) {
        e.shed("w14 o3").due("text(3, 0) = 0");
        for (int i = 0; i < 16; i++) {
            e.due("look(0, 0) = 3");
        }
        is(e, "of 2 to the 16th", 1, 1, 4, 4, 3, 16, 0, 0, 1, 0, 0, 65536, 65536, 65536, 4, 3, 6, 16, -1, -1, -1,
                -1, -1, -1, -1, -1, -1, -1, -1, -1, 0);
        long most = 1L << 32;
        e.shed("w24 o3").due("text(3, 0) = 0");
        for (int i = 0; i < 16; i++) {
            e.due("look(0, 0) = 9");
        }
        is(e, "of 4 to the 16th", 1, 2, 4, 16, 9, 16, 0, 0, 1, 0, 0, 0, 0, 0, 0, most, most, most, 0, most, most,
                most,
                0, most, most, most, 4, 3, 36, 16, -1, -1, -1, -1, -1, -1, -1, -1, -1, -1, -1, -1, 0);
    }

    @Says("for each v: count() 0 to 9; of each SETTING its WEIGHT; of each PERSON person() 0 to 3;")
    static void promise45_whatIsToldIsNotOfIt(Edge e) {
        e.shed("w14 p1");
        long before = e.digest();
        e.due("best() = 0", "likely(0) = 1", "tear(0) = NOTHING", "person(0, 2) = 1")
                .check("as it was", e.digest(), before);
    }
}
