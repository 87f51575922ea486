/** Boundary cases of promises 27 to 33: what a look is worth, told looks. */
final class EdgesLooksTest {
    public static void main(String[] args) {
        Edge.runAll(EdgesLooksTest.class);
    }

    /** DEEDS up to the sixteenth, by LOOKS that tell nothing. */
    private static void fillDeeds(Edge e, int blind, int left, int deeds) {
        for (int i = deeds; i < 16; i++) {
            e.due("look(" + blind + ", 0) = " + left);
        }
        e.due("count(5) = 16", "look(" + blind + ", 0) = FULL");
    }

    // ---- 27 worth

    @Says("The chance that the first TRY opens it behind one LOOK more at a PERSON, told by upper(), lower(): 1.")
    static void promise27_leastToSure(Edge e) {
        e.shed("w14 p1 p2 p3 b1 e2").due("worth(0) = 1 told 1/1", "worth(1) = 1 told 1/2", "worth(2) = 1 told 1/3");
        e.due("worth(3) = 1 told 1/4", "worth(4) = 1 told 1/2", "vain(0) = 3", "vain(1) = 2",
                "worth(3) = 1 told 1/2");
        e.due("worth(1) = 1 told 3/4", "vain(3) = 1").each("worth(%d) = 1 told 1/1", 0, 1, 2, 3, 4);
        e.shed("w36 b1").due("worth(0) = 1 told 1/216", "vain(215) = 215", "worth(0) = 1 told 1/215");
    }

    @Says("behind one LOOK more")
    static void promise27_behindSixteenDeeds(Edge e) {
        e.shed("w14 p2 b1").due("look(0, 0) = 2", "worth(0) = 1 told 3/4", "worth(1) = 1 told 1/2");
        fillDeeds(e, 1, 2, 1);
        e.due("worth(0) = 1 told 3/4", "worth(1) = 1 told 1/2", "count(5) = 16");
    }

    @Says("BAD.")
    static void promise27_bad(Edge e) {
        e.fresh().each("worth(%d) = BAD", -1, 0, 1).shed("w14 p1 b1").each("worth(%d) = BAD", Edge.outside(0, 1));
        e.due("worth(1) = 1 told 1/4").shed("w14 b1 b1 b1 b1 p1").due("worth(4) = 1 told 1/1", "worth(5) = BAD");
    }

    // ---- 28 whose

    @Says({"The PERSON whose LOOK is worth most so (the first);",
            "the one whose is worth least (the first) by asked()."})
    static void promise28_theFirst(Edge e) {
        e.shed("w14 b1").due("whose() = 0 asked 0").shed("w14 b1 p3 p1").due("whose() = 2 asked 0");
        e.shed("w14 p1 p3 b1").due("whose() = 0 asked 2").shed("w14 p2 p1 p1 b1 b1").due("whose() = 1 asked 3");
        e.shed("w16 p3 e3").due("whose() = 0 asked 0").shed("w16 b1 e3 p3 b1").due("whose() = 1 asked 0");
        e.shed("w14 p3 p3 p3 p2 b2").due("whose() = 3 asked 4", "flicks(3, 3) = 2", "whose() = 0 asked 4");
        e.due("vain(0) = 3", "vain(1) = 2", "vain(2) = 1", "whose() = 0 asked 0");
    }

    @Says("The PERSON whose LOOK is worth most so (the first);")
    static void promise28_byLittle(Edge e) {
        e.shed("w14 p3 p2").due("vain(0) = 3", "vain(1) = 2", "worth(0) = 1 told 2/3", "worth(1) = 1 told 3/4");
        e.due("whose() = 1 asked 0").shed("w14 p2 p3").due("vain(0) = 3", "vain(1) = 2", "whose() = 0 asked 1");
    }

    @Says("STATE: no PERSONS.")
    static void promise28_state(Edge e) {
        e.fresh().due("whose() = STATE").text(0, "w14p1").due("whose() = STATE", "shed(0) = 1",
                "whose() = 0 asked 0");
    }

    // ---- 29 seen

    @Says("The chance that a SETTING is SEEN at the next LOOK at a PERSON, told by upper(), lower(): 1.")
    static void promise29_noneToSure(Edge e) {
        e.shed("w14 p1 e2 b1").each("seen(0, %d) = 1 told 1/4", 0, 1, 2, 3)
                .due("look(0, 0) = 1", "seen(0, 0) = 1 told 1/1");
        e.each("seen(0, %d) = 1 told 0/1", 1, 2, 3).due("seen(1, 3) = 1 told 0/1", "seen(1, 0) = 1 told 1/4");
        e.due("seen(1, 1) = 1 told 1/2", "seen(1, 2) = 1 told 1/4").each("seen(2, %d) = 1 told 1/4", 0, 1, 2, 3);
        e.shed("w36 b1").due("seen(0, 0) = 1 told 1/216", "seen(0, 215) = 1 told 1/216");
    }

    @Says("at the next LOOK at a PERSON,")
    static void promise29_behindSixteenDeeds(Edge e) {
        e.shed("w14 p2 b1").due("look(0, 0) = 2");
        fillDeeds(e, 1, 2, 1);
        // 2 or 3: to 3, 0 or to 0, 1.
        e.due("seen(0, 0) = 1 told 1/2", "seen(0, 3) = 1 told 1/4", "seen(0, 1) = 1 told 1/4",
                "seen(0, 2) = 1 told 0/1");
    }

    @Says("BAD: also no SETTING.")
    static void promise29_bad(Edge e) {
        e.fresh().due("seen(0, 0) = BAD").shed("w14 p1 b1").each("seen(%d, 0) = BAD", Edge.outside(0, 1));
        e.each("seen(1, %d) = BAD", Edge.outside(0, 3)).due("seen(1, 3) = 1 told 1/4");
        e.shed("w36 b1").each("seen(0, %d) = BAD", Edge.outside(0, 215)).due("seen(0, 215) = 1 told 1/216");
    }

    // ---- 30 sights

    @Says({"How many SETTINGS can be SEEN at the next LOOK at a PERSON;", "the likeliest (the first) by asked()."})
    static void promise30_oneToAll(Edge e) {
        e.shed("w14 p1 e2 b1").each("sights(%d) = 4 asked 0", 0, 1, 2).due("look(0, 3) = 1", "sights(0) = 1 asked 3");
        // The CODE is 2: an EITHER comes to 3, 1 once, to 0 twice.
        e.due("sights(1) = 3 asked 0", "sights(2) = 4 asked 0", "undo(0) = 1", "look(0, 1) = 1",
                "sights(1) = 3 asked 2");
        e.due("undo(0) = 1", "look(0, 2) = 1", "sights(1) = 3 asked 3", "sights(0) = 1 asked 2");
        e.shed("w36 b1 p3").due("sights(0) = 216 asked 0", "sights(1) = 216 asked 0");
        // 1 or 2: to 2, 3 or to 3, 0.
        e.shed("w14 p2").due("look(0, 3) = 2", "sights(0) = 3 asked 3");
        e.shed("w14 e1").due("vain(0) = 3", "vain(2) = 2", "sights(0) = 2 asked 0", "vain(1) = 1",
                "sights(0) = 2 asked 0");
    }

    @Says("at the next LOOK at a PERSON;")
    static void promise30_behindSixteenDeeds(Edge e) {
        e.shed("w14 p2 b1").due("look(0, 0) = 2");
        fillDeeds(e, 1, 2, 1);
        e.due("sights(0) = 3 asked 0", "sights(1) = 4 asked 0");
    }

    @Says("BAD.")
    static void promise30_bad(Edge e) {
        e.fresh().each("sights(%d) = BAD", -1, 0, 1).shed("w14 p1 b1").each("sights(%d) = BAD", Edge.outside(0, 1));
        e.due("sights(1) = 4 asked 0").shed("w14 b1 b1 b1 b1 p1").due("sights(4) = 4 asked 0", "sights(5) = BAD");
    }

    // ---- 31 fits

    @Says({"How many CODES there can be by such LOOKS;", "the first by asked() (NONE: none)."})
    static void promise31_noneToAll(Edge e) {
        e.shed("w14 p1 p2 b1").row(0).due("fits(0) = 4 asked 0").row(0, 2, 3).due("fits(0) = 4 asked 0");
        e.row(0, 1, 0).due("fits(0) = 2 asked 2").row(0, 1, 1).due("fits(0) = 2 asked 0").row(0, 0, 0)
                .due("fits(0) = 1 asked 3");
        e.row(0, 0, 1).due("fits(0) = 1 asked 0").row(0, 0, 0, 0, 1).due("fits(0) = 0 asked NONE");
        e.row(0, 1, 0, 1, 0, 1, 0, 1, 0, 1, 0, 0, 0).due("fits(0) = 1 asked 3");
        e.row(0, 1, 0, 1, 0, 1, 0, 1, 0, 1, 0, 0, 1).due("fits(0) = 0 asked NONE");
        e.shed("w36 b1").row(5, 0, 215).due("fits(5) = 216 asked 0");
    }

    @Says({"BAD; STATE: no PERSONS; NOTHING; SIZE; UNLIKE.", "(In this order.)"})
    static void promise31_refused(Edge e) {
        refused(e, "fits");
        e.shed("w14 p1").row(5, 0, 0).due("fits(5) = 1 asked 3").row(0, 0, 0).due("fits(0) = 1 asked 3");
    }

    /** What fits(), chance(), read() share: each refusal, and behind it the next. */
    private static void refused(Edge e, String call) {
        e.fresh().each(call + "(%d) = BAD", Edge.outside(0, 5)).each(call + "(%d) = STATE", 0, 1, 2, 3, 4, 5);
        e.row(0, 9).row(1, 9, 9).due(call + "(0) = STATE", call + "(1) = STATE", call + "(6) = BAD");
        e.shed("w14 p1 b1").each(call + "(%d) = BAD", Edge.outside(0, 5))
                .each(call + "(%d) = NOTHING", 0, 1, 2, 3, 4, 5);
        e.row(0, 9).due(call + "(0) = SIZE").row(0, 9, 9, 9).due(call + "(0) = SIZE").row(0, 9, 9)
                .due(call + "(0) = UNLIKE");
        e.row(0, 2, 0).due(call + "(0) = UNLIKE").row(0, 1, 4).due(call + "(0) = UNLIKE").row(0, -1, 0)
                .due(call + "(0) = UNLIKE");
        e.row(0, 0, -1).due(call + "(0) = UNLIKE").row(0, 0, 0, 0, 1, 2, 0).due(call + "(0) = UNLIKE");
        e.row(0, new int[13]).due(call + "(0) = SIZE").row(0, new int[14]).due(call + "(0) = SIZE");
        e.row(0, 9, 9, 9, 9, 9, 9, 9, 9, 9, 9, 9, 9, 9, 9).due(call + "(0) = SIZE");
        e.row(0, 9, 9, 9, 9, 9, 9, 9, 9, 9, 9, 9, 9).due(call + "(0) = UNLIKE", "tear(0) = 1",
                call + "(0) = NOTHING");
    }

    // ---- 32 chance

    @Says({"The chance that just these are SEEN, one behind the other,",
        "any CODE being alike likely, told by upper(), lower(): 1."})
    static void promise32_noneToSure(Edge e) {
        e.shed("w14 p1 p2 e2 b1").row(0).due("chance(0) = 1 told 1/1").row(0, 0, 0).due("chance(0) = 1 told 1/4");
        e.row(0, 0, 0, 0, 0).due("chance(0) = 1 told 1/4").row(0, 0, 0, 0, 1).due("chance(0) = 1 told 0/1");
        e.row(0, 1, 0).due("chance(0) = 1 told 1/4").row(0, 1, 0, 1, 0).due("chance(0) = 1 told 1/8");
        e.row(0, 1, 0, 0, 0).due("chance(0) = 1 told 1/8").row(0, 0, 0, 1, 0).due("chance(0) = 1 told 1/8");
        e.row(0, 2, 0, 2, 0).due("chance(0) = 1 told 3/32").row(0, 3, 1, 3, 2).due("chance(0) = 1 told 1/16");
        e.due("vain(3) = 3").row(0, 0, 0).due("chance(0) = 1 told 1/4");
    }

    @Says("any CODE being alike likely, told by upper(), lower(): 1.")
    static void promise32_theLeast(Edge e) {
        e.shed("w36 b1 o3").row(0, 0, 1, 0, 2, 0, 3, 0, 4, 0, 5, 0, 6).due("chance(0) = 1 told 1/101559956668416");
        // 25 CODES to the SETTING 0: 16 in one WAY, eight in two, one in four; by 216 times 36 to the 6th.
        e.row(0, 1, 0, 1, 0, 1, 0, 1, 0, 1, 0, 1, 0).due("chance(0) = 1 told 289/29386561536");
    }

    @Says({"BAD; STATE; NOTHING; SIZE; UNLIKE.", "(In this order.)"})
    static void promise32_refused(Edge e) {
        refused(e, "chance");
        e.shed("w14 p1").row(5, 0, 0).due("chance(5) = 1 told 1/4").row(0, 0, 0).due("chance(0) = 1 told 1/4");
    }

    // ---- 33 read

    @Says("The likeliest CODE behind these (the first).")
    static void promise33_theFirst(Edge e) {
        e.shed("w14 p1 p2 e2 e3").row(0).due("read(0) = 0").row(0, 0, 0).due("read(0) = 3").row(0, 0, 1)
                .due("read(0) = 0");
        e.row(0, 1, 0).due("read(0) = 2").row(0, 1, 1).due("read(0) = 0").row(0, 2, 0).due("read(0) = 2");
        e.row(0, 2, 1).due("read(0) = 3").row(0, 2, 2).due("read(0) = 0").row(0, 3, 0).due("read(0) = 1");
        e.row(0, 3, 1).due("read(0) = 0").row(0, 2, 0, 2, 0, 2, 0, 2, 0, 2, 0, 1, 0).due("read(0) = 2");
        e.due("vain(2) = 3", "read(0) = 2", "count(5) = 1");
    }

    @Says({"BAD; STATE; NOTHING; SIZE; UNLIKE; NOUGHT: none can be.", "(In this order.)"})
    static void promise33_refused(Edge e) {
        refused(e, "read");
        e.shed("w14 p1").row(5, 0, 0).due("read(5) = 3").row(5, 0, 0, 0, 1).due("read(5) = NOUGHT");
        e.row(5, 0, 0, 0, 1, 0, 4).due("read(5) = UNLIKE").row(5, 0, 0, 0, 1, 0).due("read(5) = SIZE");
        e.row(5, 0, 0, 0, 0, 0, 0, 0, 0, 0, 0, 0, 1).due("read(5) = NOUGHT", "fits(5) = 0 asked NONE",
                "chance(5) = 1 told 0/1");
        e.row(5, 0, 0, 0, 0, 0, 0, 0, 0, 0, 0, 0, 0).due("read(5) = 3");
    }
}
