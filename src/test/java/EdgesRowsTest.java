/** Boundary cases of promises 1 to 7: a new object, rows. */
final class EdgesRowsTest {
    public static void main(String[] args) {
        Edge.runAll(EdgesRowsTest.class);
    }

    // ---- 1 a new object

    @Says("No ROWS, TEXTS, PERSONS.")
    static void promise01_nothingIsThere(Edge e) {
        e.fresh().each("count(%d) = 0", 0, 1, 2, 3, 4, 5, 6, 7, 8, 9);
        e.each("at(%d, 0) = NOTHING", 0, 1, 2, 3, 4, 5).each("put(%d, 0, 0) = NOTHING", 0, 1, 2, 3);
        e.each("on(%d) = NOTHING", 0, 1, 2).each("person(%d, 0) = BAD", 0, 1, 4);
        e.due("likely(0) = BAD", "wheel(0, 0) = BAD", "look(0, 0) = BAD", "vain(0) = BAD", "best() = STATE");
    }

    @Says("No ROWS, TEXTS, PERSONS.")
    static void promise01_objectsShareNothing(Edge e) {
        e.shed("w14 p1").row(0, 7).due("look(0, 0) = 1", "keep(0) = 1", "at(0, 1) = BEYOND",
                "likely(3) = 1 told 1/1");
        e.fresh().due("asked() = 0", "upper() = 0", "lower() = 1", "finding() = 0", "findings(2) = 0",
                "tear(0) = NOTHING");
        e.each("count(%d) = 0", 0, 1, 2, 3, 4, 5, 6, 7, 8, 9).due("on(0) = NOTHING");
    }

    // ---- 2 row

    @Says("A ROW is there with n ints 0: n.")
    static void promise02_ofEachSize(Edge e) {
        for (int n = 0; n <= 40; n++) {
            e.fresh().due("row(5, " + n + ") = " + n, "count(7) = 1").isRow(5, new int[n]);
        }
    }

    @Says("A ROW is there with n ints 0: n.")
    static void promise02_anew(Edge e) {
        e.fresh().row(0, 7, 8, 9).due("row(0, 3) = 3").isRow(0, 0, 0, 0);
        e.row(0, 7, 8, 9).due("row(0, 2) = 2").isRow(0, 0, 0).due("row(0, 3) = 3").isRow(0, 0, 0, 0);
        e.row(0, 7, 8, 9).due("row(0, 0) = 0").isRow(0).due("row(0, 4) = 4").isRow(0, 0, 0, 0, 0);
        e.row(0, 7, 8, 9).due("tear(0) = 1", "row(0, 3) = 3").isRow(0, 0, 0, 0).due("count(7) = 1");
    }

    @Says("BAD: also n above 40;")
    static void promise02_above40(Edge e) {
        e.fresh().row(0, 7).due("row(0, 41) = BAD", "row(0, 42) = BAD", "row(0, 256) = BAD", "row(0, MAX) = BAD");
        e.isRow(0, 7).due("row(0, 39) = 39", "row(0, 40) = 40", "at(0, 39) = 1", "at(0, 40) = BEYOND");
    }

    @Says("BAD: also n above 40;")
    static void promise02_noSuchRow(Edge e) {
        e.fresh().each("row(%d, 1) = BAD", Edge.outside(0, 5)).each("row(%d, 41) = BAD", Edge.outside(0, 5));
        e.due("row(0, 1) = 1", "row(5, 1) = 1", "count(7) = 2");
    }

    @Says("SIZE: below 0.")
    static void promise02_below0(Edge e) {
        e.fresh().row(0, 7).due("row(0, -1) = SIZE", "row(0, -2) = SIZE", "row(0, -40) = SIZE", "row(0, MIN) = SIZE");
        e.isRow(0, 7).due("row(0, 0) = 0", "row(1, -1) = SIZE", "count(7) = 1", "row(6, -1) = BAD");
    }

    // ---- 3 lay

    @Says("Place i of a ROW is v: what it was, told by asked(): 1.")
    static void promise03_firstAndLastPlace(Edge e) {
        e.fresh().due("row(2, 40) = 40", "lay(2, 0, 5) = 1 asked 0", "lay(2, 39, 6) = 1 asked 0");
        e.due("lay(2, 0, MIN) = 1 asked 5", "lay(2, 0, MAX) = 1 asked MIN", "lay(2, 0, -1) = 1 asked MAX");
        e.due("lay(2, 39, 0) = 1 asked 6", "lay(2, 39, 0) = 1 asked 0", "at(2, 0) = 1 asked -1");
        e.due("at(2, 1) = 1 asked 0", "at(2, 38) = 1 asked 0", "row(1, 1) = 1", "lay(1, 0, 3) = 1 asked 0");
        e.due("at(2, 0) = 1 asked -1", "at(1, 0) = 1 asked 3");
    }

    @Says("BAD; NOTHING; BEYOND.")
    static void promise03_bad(Edge e) {
        e.fresh().each("lay(%d, 0, 1) = BAD", Edge.outside(0, 5)).row(0, 7).row(5, 8);
        e.each("lay(%d, 9, 1) = BAD", Edge.outside(0, 5)).due("lay(0, 0, 1) = 1 asked 7", "lay(5, 0, 1) = 1 asked 8");
    }

    @Says("BAD; NOTHING; BEYOND.")
    static void promise03_nothing(Edge e) {
        e.fresh().each("lay(%d, 0, 1) = NOTHING", 0, 1, 2, 3, 4, 5)
                .due("lay(3, -1, 1) = NOTHING", "lay(3, 40, 1) = NOTHING");
        e.due("row(3, 1) = 1", "lay(3, 0, 1) = 1 asked 0", "tear(3) = 1", "lay(3, 0, 1) = NOTHING");
    }

    @Says("BAD; NOTHING; BEYOND.")
    static void promise03_beyond(Edge e) {
        e.fresh().row(0, 7, 8, 9).each("lay(0, %d, 1) = BEYOND", Edge.outside(0, 2)).isRow(0, 7, 8, 9);
        e.due("lay(0, 0, 1) = 1 asked 7", "lay(0, 2, 1) = 1 asked 9", "lay(0, 3, 1) = BEYOND");
        e.row(0).each("lay(0, %d, 1) = BEYOND", -1, 0, 1).due("row(0, 40) = 40");
        e.each("lay(0, %d, 1) = BEYOND", Edge.outside(0, 39));
    }

    // ---- 4 at

    @Says("Place i of a ROW, told by asked(): 1.")
    static void promise04_firstAndLastPlace(Edge e) {
        e.fresh().row(4, -9, 3, Integer.MIN_VALUE, Integer.MAX_VALUE)
                .due("at(4, 0) = 1 asked -9", "at(4, 1) = 1 asked 3");
        e.due("at(4, 2) = 1 asked MIN", "at(4, 3) = 1 asked MAX", "at(4, 0) = 1 asked -9");
        e.row(4, -1).due("at(4, 0) = 1 asked -1");
    }

    @Says("BAD; NOTHING; BEYOND.")
    static void promise04_bad(Edge e) {
        e.fresh().each("at(%d, 0) = BAD", Edge.outside(0, 5)).row(0, 7).row(5, 8)
                .each("at(%d, 9) = BAD", Edge.outside(0, 5));
        e.due("at(0, 0) = 1 asked 7", "at(5, 0) = 1 asked 8");
    }

    @Says("BAD; NOTHING; BEYOND.")
    static void promise04_nothing(Edge e) {
        e.fresh().each("at(%d, 0) = NOTHING", 0, 1, 2, 3, 4, 5).due("at(3, -1) = NOTHING", "at(3, 40) = NOTHING");
        e.row(3, 7).due("at(3, 0) = 1 asked 7", "tear(3) = 1", "at(3, 0) = NOTHING");
    }

    @Says("BAD; NOTHING; BEYOND.")
    static void promise04_beyond(Edge e) {
        e.fresh().row(0, 7, 8, 9).each("at(0, %d) = BEYOND", Edge.outside(0, 2)).due("at(0, 2) = 1 asked 9");
        e.row(0).each("at(0, %d) = BEYOND", -1, 0, 1).due("row(0, 40) = 40")
                .each("at(0, %d) = BEYOND", Edge.outside(0, 39));
    }

    // ---- 5 tear

    @Says("A ROW is missing: 1.")
    static void promise05_isMissing(Edge e) {
        e.fresh().row(0, 1).row(1).row(5, 2);
        e.due("tear(1) = 1", "count(7) = 2", "at(1, 0) = NOTHING", "tear(5) = 1", "tear(0) = 1", "count(7) = 0");
        e.due("at(0, 0) = NOTHING", "at(5, 0) = NOTHING");
    }

    @Says("BAD; NOTHING.")
    static void promise05_refused(Edge e) {
        e.fresh().each("tear(%d) = BAD", Edge.outside(0, 5)).each("tear(%d) = NOTHING", 0, 1, 2, 3, 4, 5);
        e.row(2, 3).due("tear(1) = NOTHING", "tear(3) = NOTHING", "tear(2) = 1", "tear(2) = NOTHING");
    }

    // ---- 6 copy

    @Says("n places of a ROW, from one on, come to those of another one")
    static void promise06_toAnother(Edge e) {
        e.fresh().row(0, 1, 2, 3, 4).row(5, 9, 9, 9, 9).due("copy(0, 0, 5, 0, 1) = 1").isRow(5, 1, 9, 9, 9);
        e.due("copy(0, 3, 5, 3, 1) = 1").isRow(5, 1, 9, 9, 4).due("copy(0, 1, 5, 2, 2) = 1").isRow(5, 1, 9, 2, 3);
        e.due("copy(0, 0, 5, 0, 4) = 1").isRow(5, 1, 2, 3, 4).isRow(0, 1, 2, 3, 4);
        e.fresh().row(0, new int[40]).row(1, new int[40]).due("lay(0, 0, 5) = 1", "lay(0, 39, 6) = 1");
        e.due("copy(0, 0, 1, 0, 40) = 1", "at(1, 0) = 1 asked 5", "at(1, 39) = 1 asked 6");
    }

    @Says("n places of a ROW,")
    static void promise06_none(Edge e) {
        e.fresh().row(0, 1, 2).row(1, 9).row(2).due("copy(0, 0, 1, 0, 0) = 1", "copy(0, 2, 1, 1, 0) = 1");
        e.due("copy(2, 0, 2, 0, 0) = 1", "copy(2, 0, 1, 0, 0) = 1", "copy(1, 0, 2, 0, 0) = 1");
        e.isRow(0, 1, 2).isRow(1, 9).isRow(2);
        e.due("copy(0, 3, 1, 0, 0) = BEYOND", "copy(0, 0, 1, 2, 0) = BEYOND", "copy(2, 1, 1, 0, 0) = BEYOND");
        e.due("copy(0, -1, 1, 0, 0) = BEYOND", "copy(0, 0, 1, -1, 0) = BEYOND", "copy(0, MAX, 1, 0, 0) = BEYOND");
    }

    @Says({"(perhaps itself) from one on,", "as if taken ahead: 1."})
    static void promise06_toItself(Edge e) {
        e.fresh().row(0, 1, 2, 3, 4, 5).due("copy(0, 0, 0, 0, 5) = 1").isRow(0, 1, 2, 3, 4, 5);
        e.due("copy(0, 0, 0, 1, 4) = 1").isRow(0, 1, 1, 2, 3, 4);
        e.row(0, 1, 2, 3, 4, 5).due("copy(0, 1, 0, 0, 4) = 1").isRow(0, 2, 3, 4, 5, 5);
        e.row(0, 1, 2, 3, 4, 5).due("copy(0, 0, 0, 2, 3) = 1").isRow(0, 1, 2, 1, 2, 3);
        e.row(0, 1, 2, 3, 4, 5).due("copy(0, 2, 0, 0, 3) = 1").isRow(0, 3, 4, 5, 4, 5);
        e.row(0, 1, 2, 3, 4, 5).due("copy(0, 0, 0, 4, 1) = 1").isRow(0, 1, 2, 3, 4, 1);
        e.due("copy(0, 5, 0, 5, 0) = 1", "copy(0, 6, 0, 6, 0) = BEYOND").isRow(0, 1, 2, 3, 4, 1);
    }

    @Says("BAD; SIZE: n below 0;")
    static void promise06_bad(Edge e) {
        e.fresh().each("copy(%d, 0, 0, 0, 1) = BAD", Edge.outside(0, 5))
                .each("copy(0, 0, %d, 0, 1) = BAD", Edge.outside(0, 5));
        e.each("copy(%d, 9, 0, 9, -1) = BAD", Edge.outside(0, 5))
                .each("copy(0, 9, %d, 9, -1) = BAD", Edge.outside(0, 5));
        e.row(0, 7).row(5, 8).due("copy(0, 0, 5, 0, 1) = 1").isRow(5, 7);
    }

    @Says("SIZE: n below 0;")
    static void promise06_size(Edge e) {
        e.fresh().each("copy(0, 0, 1, 0, %d) = SIZE", -1, -2, Integer.MIN_VALUE).row(0, 7).row(1, 8);
        e.each("copy(0, 0, 1, 0, %d) = SIZE", -1, -2, Integer.MIN_VALUE).each("copy(0, 9, 1, 9, %d) = SIZE", -1, -9);
        e.each("copy(0, 1, 1, 1, %d) = SIZE", -1, Integer.MIN_VALUE).due("copy(0, 0, 1, 0, 0) = 1").isRow(1, 8);
    }

    @Says("NOTHING: either;")
    static void promise06_nothing(Edge e) {
        e.fresh().due("copy(0, 0, 1, 0, 1) = NOTHING", "copy(0, 0, 0, 0, 0) = NOTHING").row(0, 7);
        e.due("copy(0, 0, 1, 0, 1) = NOTHING", "copy(1, 0, 0, 0, 1) = NOTHING", "copy(0, 0, 1, 0, 0) = NOTHING");
        e.due("copy(1, 0, 0, 0, 0) = NOTHING", "copy(0, 9, 1, 0, 1) = NOTHING", "copy(1, 0, 0, 9, 1) = NOTHING");
        e.row(1, 8).due("copy(0, 0, 1, 0, 1) = 1").isRow(1, 7);
    }

    @Says("BEYOND: not so many there.")
    static void promise06_beyond(Edge e) {
        e.fresh().row(0, 1, 2, 3).row(1, 9, 9);
        e.due("copy(0, 0, 1, 0, 2) = 1", "copy(0, 0, 1, 0, 3) = BEYOND", "copy(1, 0, 0, 0, 3) = BEYOND");
        e.due("copy(0, 1, 1, 0, 2) = 1", "copy(0, 2, 1, 0, 2) = BEYOND", "copy(0, 2, 1, 0, 1) = 1");
        e.due("copy(0, 0, 1, 1, 1) = 1", "copy(0, 0, 1, 1, 2) = BEYOND", "copy(0, 0, 1, 2, 1) = BEYOND");
        e.due("copy(0, 3, 1, 0, 1) = BEYOND", "copy(0, -1, 1, 0, 1) = BEYOND", "copy(0, 0, 1, -1, 1) = BEYOND");
        e.due("copy(0, -1, 1, 0, 2) = BEYOND", "copy(0, 0, 1, 0, MAX) = BEYOND", "copy(0, MAX, 1, 0, MAX) = BEYOND");
        e.due("copy(0, 0, 1, MAX, MAX) = BEYOND", "copy(0, 2, 1, 0, MAX) = BEYOND",
                "copy(0, MIN, 1, 0, MAX) = BEYOND");
        e.due("copy(0, MAX, 1, 0, 1) = BEYOND", "copy(0, 0, 1, MAX, 1) = BEYOND", "copy(0, 0, 1, MIN, 1) = BEYOND");
        e.due("copy(0, 1, 0, 0, 3) = BEYOND", "copy(0, 0, 0, 1, 3) = BEYOND").isRow(0, 1, 2, 3).isRow(1, 3, 1);
    }

    // ---- 7 mean

    @Says("The mean of a ROW's ints, cut, told by asked(): 1.")
    static void promise07_cut(Edge e) {
        e.fresh().row(0, 7).due("mean(0) = 1 asked 7").row(0, 1, 2).due("mean(0) = 1 asked 1");
        e.row(0, -1, -2).due("mean(0) = 1 asked -1").row(0, 0, -1).due("mean(0) = 1 asked 0");
        e.row(0, 0, 1).due("mean(0) = 1 asked 0").row(0, 0, 2).due("mean(0) = 1 asked 1");
        e.row(0, 0, -2).due("mean(0) = 1 asked -1").row(0, 1, 1, 0).due("mean(0) = 1 asked 0");
        e.row(0, -1, -1, 0).due("mean(0) = 1 asked 0").row(0, -3, 2).due("mean(0) = 1 asked 0").isRow(0, -3, 2);
    }

    @Says("The mean of a ROW's ints, cut, told by asked(): 1.")
    static void promise07_widest(Edge e) {
        int[] most = new int[40];
        java.util.Arrays.fill(most, Integer.MAX_VALUE);
        e.fresh().row(0, most).due("mean(0) = 1 asked MAX");
        java.util.Arrays.fill(most, Integer.MIN_VALUE);
        e.row(0, most).due("mean(0) = 1 asked MIN");
        e.row(0, Integer.MAX_VALUE, Integer.MIN_VALUE).due("mean(0) = 1 asked 0");
        e.row(0, Integer.MAX_VALUE, 1).due("mean(0) = 1 asked 1073741824");
    }

    @Says("BAD; NOTHING; NOUGHT.")
    static void promise07_refused(Edge e) {
        e.fresh().each("mean(%d) = BAD", Edge.outside(0, 5)).each("mean(%d) = NOTHING", 0, 1, 2, 3, 4, 5);
        e.row(0).row(5).due("mean(0) = NOUGHT", "mean(5) = NOUGHT", "mean(4) = NOTHING", "row(5, 1) = 1");
        e.due("mean(5) = 1 asked 0", "tear(0) = 1", "mean(0) = NOTHING");
    }
}
