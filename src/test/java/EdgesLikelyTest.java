/** Boundary cases of promises 20 to 26: how likely, trying. */
final class EdgesLikelyTest {
    public static void main(String[] args) {
        Edge.runAll(EdgesLikelyTest.class);
    }

    // ---- 20 likely

    @Says("The chance of a CODE, told by upper(), lower(): 1.")
    static void promise20_fromNoneToSure(Edge e) {
        e.shed("w14 e2").each("likely(%d) = 1 told 1/4", 0, 1, 2, 3).due("look(0, 1) = 3", "likely(1) = 1 told 0/1");
        e.due("likely(0) = 1 told 1/4", "likely(3) = 1 told 1/2", "vain(3) = 2", "likely(0) = 1 told 1/2");
        e.due("vain(2) = 1", "likely(0) = 1 told 1/1", "likely(2) = 1 told 0/1");
        e.shed("w36 b1").due("likely(0) = 1 told 1/216", "likely(215) = 1 told 1/216", "vain(0) = 215",
                "likely(215) = 1 told 1/215");
    }

    @Says("BAD: no SETTING.")
    static void promise20_bad(Edge e) {
        e.fresh().each("likely(%d) = BAD", -1, 0, 1).shed("w14 b1").each("likely(%d) = BAD", Edge.outside(0, 3));
        e.shed("w36 b1").each("likely(%d) = BAD", Edge.outside(0, 215)).due("likely(215) = 1 told 1/216");
    }

    // ---- 21 best

    @Says("The likeliest CODE (the first); how many CODES are as likely by asked().")
    static void promise21_theFirst(Edge e) {
        e.shed("w14 e2 e3").due("best() = 0 asked 4", "vain(0) = 3", "best() = 1 asked 3", "vain(2) = 2",
                "best() = 1 asked 2");
        e.due("vain(1) = 1", "best() = 3 asked 1", "undo(0) = 3", "look(0, 0) = 3", "best() = 2 asked 1",
                "vain(2) = 2");
        e.due("best() = 1 asked 2", "undo(0) = 2", "look(0, 1) = 3", "best() = 3 asked 1", "undo(0) = 1",
                "look(0, 2) = 3");
        e.due("best() = 0 asked 1", "undo(0) = 1", "look(1, 3) = 3", "best() = 0 asked 3");
        e.shed("w36 b1").due("best() = 0 asked 216", "vain(0) = 215", "best() = 1 asked 215");
    }

    @Says("STATE: no PERSONS.")
    static void promise21_state(Edge e) {
        e.fresh().due("best() = STATE").text(0, "w14").due("shed(0) = STATE", "best() = STATE").text(0, "w14p1");
        e.due("best() = STATE", "shed(0) = 1", "best() = 0 asked 4");
    }

    // ---- 22 wheel

    @Says("The chance that a WHEEL of the CODE is at a NOTCH, told by upper(), lower(): 1.")
    static void promise22_firstAndLast(Edge e) {
        e.shed("w36 p1 a1").due("wheel(0, 0) = 1 told 1/6", "wheel(2, 5) = 1 told 1/6", "look(1, 0) = 3");
        e.each("wheel(%d, 5) = 1 told 1/3", 0, 1, 2).each("wheel(%d, 0) = 1 told 2/3", 0, 1, 2);
        e.each("wheel(%d, 1) = 1 told 0/1", 0, 1, 2).each("wheel(%d, 4) = 1 told 0/1", 0, 1, 2);
        e.due("undo(0) = 1", "look(0, 215) = 1", "wheel(0, 5) = 1 told 1/1", "wheel(1, 5) = 1 told 1/1");
        e.due("wheel(2, 4) = 1 told 1/1", "wheel(2, 5) = 1 told 0/1", "wheel(0, 0) = 1 told 0/1");
        e.shed("w14 e2").due("look(0, 3) = 3", "wheel(0, 1) = 1 told 1/2", "wheel(0, 0) = 1 told 1/4",
                "wheel(0, 3) = 1 told 0/1");
    }

    @Says("BAD: also no such WHEEL, NOTCH.")
    static void promise22_bad(Edge e) {
        e.fresh().due("wheel(0, 0) = BAD");
        for (int w = 1; w <= 3; w++) {
            for (int n = 4; n <= 6; n++) {
                e.shed("w" + w + n + " p1").each("wheel(%d, 0) = BAD", Edge.outside(0, w - 1));
                e.each("wheel(0, %d) = BAD", Edge.outside(0, n - 1))
                        .due("wheel(" + (w - 1) + ", " + (n - 1) + ") = 1 told 1/" + n);
            }
        }
    }

    // ---- 23 certain

    @Says("WHEELS (bits) of the CODE that are certain;")
    static void promise23_noneToAll(Edge e) {
        e.shed("w34 p1 a1 o1 b1").due("certain() = 0 asked 999", "look(1, 0) = 3", "certain() = 0 asked 999");
        // 3, 12, 48 can be: one WHEEL of each is at 3.
        e.due("vain(48) = 2", "certain() = 1 asked 99", "undo(1) = 1", "vain(12) = 2", "certain() = 2 asked 909");
        e.due("undo(1) = 1", "vain(3) = 2", "certain() = 4 asked 990", "vain(12) = 1", "certain() = 7 asked 300");
        e.due("undo(0) = 3", "look(0, 63) = 1", "certain() = 7 asked 332", "look(3, 0) = 1",
                "certain() = 7 asked 332");
        e.shed("w34 p2").due("look(0, 2) = 2", "certain() = 3 asked 9");
    }

    @Says("their NOTCHES by asked() (a number: 10 times that ahead, and the NOTCH, or 9, WHEEL by WHEEL, 0 ahead).")
    static void promise23_oneToThreeWheels(Edge e) {
        e.shed("w16 p1").due("certain() = 0 asked 9", "look(0, 0) = 1", "certain() = 1 asked 5", "undo(0) = 1",
                "look(0, 1) = 1");
        e.due("certain() = 1 asked 0").shed("w26 p1 e1").due("certain() = 0 asked 99", "look(1, 30) = 2",
                "certain() = 1 asked 59");
        e.due("look(0, 30) = 1", "certain() = 3 asked 55", "undo(0) = 2", "look(0, 1) = 1", "certain() = 3 asked 0");
        e.shed("w36 p1").due("certain() = 0 asked 999", "look(0, 36) = 1", "certain() = 7 asked 105");
    }

    @Says("STATE: no PERSONS.")
    static void promise23_state(Edge e) {
        e.fresh().due("certain() = STATE").text(0, "w14p1").due("certain() = STATE", "shed(0) = 1",
                "certain() = 0 asked 9");
    }

    // ---- 24 order

    @Says({"The order in which all CODES that can be are best tried",
        "(the likeliest ahead, of alike ones the lesser number),"})
    static void promise24_alikeOnes(Edge e) {
        e.shed("w16 e3 b1").due("order(40, 0) = 6").isRow(0, 0, 1, 2, 3, 4, 5);
        e.due("look(0, 0) = 5", "order(40, 0) = 5").isRow(0, 3, 1, 2, 4, 5);
        e.due("vain(3) = 4", "order(40, 0) = 4").isRow(0, 1, 2, 4, 5)
                .due("vain(1) = 3", "vain(5) = 2", "order(40, 0) = 2");
        e.isRow(0, 2, 4).due("vain(2) = 1", "order(40, 0) = 1").isRow(0, 4);
        e.shed("w24 o2").due("look(0, 0) = 9", "order(40, 0) = 9").isRow(0, 10, 6, 9, 11, 14, 5, 7, 13, 15);
    }

    @Says("the first n (1 .. 40), as many as there are,")
    static void promise24_oneToForty(Edge e) {
        e.shed("w36 b1").due("order(1, 0) = 1").isRow(0, 0).due("order(39, 0) = 39", "at(0, 38) = 1 asked 38",
                "at(0, 39) = BEYOND");
        e.due("order(40, 0) = 40", "at(0, 39) = 1 asked 39", "at(0, 40) = BEYOND", "order(41, 0) = BAD",
                "order(0, 0) = BAD");
        e.shed("w14 b1").due("order(3, 0) = 3", "order(4, 0) = 4", "order(5, 0) = 4").isRow(0, 0, 1, 2, 3);
        e.due("order(2, 0) = 2").isRow(0, 0, 1);
    }

    @Says("comes to a ROW (anew): how many.")
    static void promise24_aRowAnew(Edge e) {
        e.shed("w14 b1").row(0, 9, 9, 9, 9, 9, 9).due("order(2, 0) = 2").isRow(0, 0, 1)
                .due("order(3, 5) = 3", "count(7) = 2");
        e.isRow(5, 0, 1, 2).due("tear(5) = 1", "order(1, 5) = 1").isRow(5, 0).due("row(5, 2) = 2").isRow(5, 0, 0);
        e.row(5).due("order(4, 5) = 4").isRow(5, 0, 1, 2, 3).due("row(0, 40) = 40", "order(4, 0) = 4",
                "at(0, 4) = BEYOND");
    }

    @Says("BAD; STATE: no PERSONS.")
    static void promise24_refused(Edge e) {
        e.fresh().due("order(1, 0) = STATE", "order(40, 5) = STATE").each("order(%d, 0) = BAD", Edge.outside(1, 40));
        e.each("order(1, %d) = BAD", Edge.outside(0, 5)).shed("w14 b1").row(0, 7);
        e.each("order(%d, 0) = BAD", Edge.outside(1, 40)).each("order(1, %d) = BAD", Edge.outside(0, 5)).isRow(0, 7);
        e.due("order(0, 6) = BAD", "order(1, 0) = 1", "order(40, 5) = 4", "order(1, 5) = 1");
    }

    // ---- 25 tries

    @Says("The mean of TRIES (with that by which it opens) in this order, told by upper(), lower(): 1.")
    static void promise25_oneToAll(Edge e) {
        e.shed("w14 p1 e2").due("tries() = 1 told 5/2", "vain(0) = 3", "tries() = 1 told 2/1", "vain(1) = 2",
                "tries() = 1 told 3/2");
        e.due("vain(2) = 1", "tries() = 1 told 1/1", "undo(0) = 3", "look(1, 0) = 3", "tries() = 1 told 7/4");
        e.due("look(0, 0) = 1", "tries() = 1 told 1/1").shed("w36 b1")
                .due("tries() = 1 told 217/2", "vain(7) = 215", "tries() = 1 told 108/1");
    }

    @Says("STATE: no PERSONS.")
    static void promise25_state(Edge e) {
        e.fresh().due("tries() = STATE").text(0, "w14p1").due("tries() = STATE", "shed(0) = 1",
                "tries() = 1 told 5/2");
    }

    // ---- 26 within

    @Says("The chance that it opens within n (0 .. 216) TRIES in this order, told likewise: 1.")
    static void promise26_noneToAll(Edge e) {
        e.shed("w14 e2").due("within(0) = 1 told 0/1", "within(1) = 1 told 1/4", "within(3) = 1 told 3/4",
                "within(4) = 1 told 1/1");
        e.due("within(5) = 1 told 1/1", "within(216) = 1 told 1/1", "look(0, 0) = 3", "within(0) = 1 told 0/1");
        e.due("within(1) = 1 told 1/2", "within(2) = 1 told 3/4", "within(3) = 1 told 1/1", "within(4) = 1 told 1/1");
        e.shed("w36 b1").due("within(0) = 1 told 0/1", "within(1) = 1 told 1/216", "within(215) = 1 told 215/216");
        e.due("within(216) = 1 told 1/1", "vain(0) = 215", "within(214) = 1 told 214/215",
                "within(215) = 1 told 1/1");
    }

    @Says("BAD; STATE: no PERSONS.")
    static void promise26_refused(Edge e) {
        e.fresh().due("within(0) = STATE", "within(216) = STATE").each("within(%d) = BAD", Edge.outside(0, 216));
        e.shed("w14 b1").each("within(%d) = BAD", Edge.outside(0, 216))
                .due("within(216) = 1 told 1/1", "within(0) = 1 told 0/1");
    }
}
