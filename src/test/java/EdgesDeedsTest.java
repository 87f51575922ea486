/** Boundary cases of promises 15 to 19: looks, tries in vain, undone, kept, gone on from. */
final class EdgesDeedsTest {
    public static void main(String[] args) {
        Edge.runAll(EdgesDeedsTest.class);
    }

    // ---- 15 look

    @Says("A LOOK: how many SETTINGS have a WEIGHT above 0 then.")
    static void promise15_fewestAndMost(Edge e) {
        e.shed("w14 p1 b1").due("look(1, 3) = 4", "look(0, 3) = 1", "look(1, 0) = 1", "count(5) = 3", "count(4) = 1");
        e.shed("w36 b1 l3 p1").due("look(0, 215) = 216", "look(1, 215) = 64", "look(2, 215) = 1",
                "best() = 214 asked 1");
    }

    @Says("A LOOK: how many SETTINGS have a WEIGHT above 0 then.")
    static void promise15_firstAndLastSetting(Edge e) {
        e.shed("w24 p1 e1 a1").due("look(0, 0) = 1", "best() = 3 asked 1", "undo(0) = 1", "look(0, 15) = 1");
        e.due("best() = 14 asked 1", "undo(0) = 1", "look(1, 0) = 2", "order(9, 0) = 2").isRow(0, 1, 3);
        e.due("undo(0) = 1", "look(1, 15) = 2", "order(9, 0) = 2").isRow(0, 12, 14);
        e.due("undo(0) = 1", "look(2, 0) = 2", "order(9, 0) = 2").isRow(0, 3, 12);
        e.due("undo(0) = 1", "look(2, 15) = 2", "order(9, 0) = 2").isRow(0, 11, 14);
    }

    @Says("BAD: also no SETTING;")
    static void promise15_bad(Edge e) {
        e.fresh().due("look(0, 0) = BAD", "look(-1, 0) = BAD").shed("w14 p1 b1");
        e.each("look(%d, 0) = BAD", Edge.outside(0, 1)).each("look(1, %d) = BAD", Edge.outside(0, 3));
        e.due("count(5) = 0", "look(1, 3) = 4", "look(1, 0) = 4", "look(0, 3) = 1");
        e.shed("w36 b1").each("look(0, %d) = BAD", Edge.outside(0, 215)).due("look(0, 215) = 216");
    }

    @Says("NOUGHT: all WEIGHTS would be 0;")
    static void promise15_nought(Edge e) {
        e.shed("w14 p2 p1").due("look(0, 2) = 2", "look(0, 0) = NOUGHT", "look(0, 3) = 1", "look(0, 1) = NOUGHT");
        e.due("look(0, 2) = 1", "look(0, 3) = 1", "look(1, 3) = NOUGHT", "look(1, 2) = 1", "count(5) = 5");
        e.shed("w14 p1").due("vain(3) = 3", "look(0, 0) = NOUGHT", "look(0, 1) = 1", "count(5) = 2");
    }

    @Says({"FULL: 16 DEEDS.", "(FULL last.)"})
    static void promise15_full(Edge e) {
        e.shed("w14 p1 b1");
        for (int i = 1; i <= 15; i++) {
            e.due("look(1, 0) = 4", "count(5) = " + i);
        }
        e.due("look(0, 0) = 1", "count(5) = 16", "look(0, 0) = FULL", "look(1, 3) = FULL", "look(0, 1) = NOUGHT");
        e.due("look(2, 0) = BAD", "look(0, 4) = BAD", "count(5) = 16", "undo(15) = 1", "look(0, 1) = 1");
    }

    @Says("A LOOK: how many SETTINGS have a WEIGHT above 0 then.")
    static void promise15_greatestWeights(Edge e) {
        e.shed("w24 o2 b1 p1");
        for (int i = 0; i < 16; i++) {
            e.due("look(0, 10) = 9");
        }
        // One WEIGHT 4 to the 16th, four 2 to the 16th, four 1.
        e.due("likely(0) = 1 told 1073741824/1073807361", "likely(1) = 1 told 16384/1073807361");
        e.due("likely(5) = 1 told 1/4295229444", "likely(10) = 1 told 0/1", "best() = 0 asked 1");
        e.due("tries() = 1 told 715980805/715871574", "within(2) = 1 told 1073758208/1073807361");
        e.due("within(5) = 1 told 1073807360/1073807361", "worth(0) = 1 told 68720001025/68723671104");
        e.due("worth(2) = 1 told 1/1", "seen(0, 10) = 1 told 4295098369/17180917776", "sights(0) = 16 asked 10");
        e.due("whose() = 2 asked 1", "wheel(0, 1) = 1 told 1/65538", "certain() = 0 asked 99");
    }

    // ---- 16 vain

    @Says("A TRY in vain: how many SETTINGS have a WEIGHT above 0 then.")
    static void promise16_firstAndLastSetting(Edge e) {
        e.shed("w14 b1").due("vain(0) = 3", "likely(0) = 1 told 0/1", "vain(3) = 2", "likely(3) = 1 told 0/1");
        e.due("vain(3) = 2", "count(5) = 3", "vain(1) = 1", "likely(2) = 1 told 1/1", "count(5) = 4");
        e.shed("w36 b1").due("vain(215) = 215", "vain(0) = 214", "best() = 1 asked 214");
    }

    @Says("BAD: no SETTING;")
    static void promise16_bad(Edge e) {
        e.fresh().each("vain(%d) = BAD", -1, 0, 1).shed("w14 b1").each("vain(%d) = BAD", Edge.outside(0, 3));
        e.due("count(5) = 0", "vain(3) = 3").shed("w36 b1").each("vain(%d) = BAD", Edge.outside(0, 215));
        e.due("vain(215) = 215");
    }

    @Says("NOUGHT: all WEIGHTS would be 0;")
    static void promise16_nought(Edge e) {
        e.shed("w14 p1 b1").due("vain(1) = 3", "vain(2) = 2", "vain(3) = 1", "vain(0) = NOUGHT", "vain(1) = 1",
                "count(5) = 4");
        e.due("undo(0) = 4", "look(0, 0) = 1", "vain(3) = NOUGHT", "vain(0) = 1", "vain(2) = 1",
                "likely(3) = 1 told 1/1");
    }

    @Says({"FULL.", "(FULL last.)"})
    static void promise16_full(Edge e) {
        e.shed("w14 p1 b1");
        for (int i = 1; i <= 15; i++) {
            e.due("vain(0) = 3", "count(5) = " + i);
        }
        e.due("vain(1) = 2", "count(5) = 16", "vain(1) = FULL", "vain(2) = FULL", "vain(4) = BAD", "undo(14) = 2");
        e.due("vain(1) = 2", "vain(2) = 1", "vain(3) = NOUGHT", "vain(2) = FULL", "vain(-1) = BAD", "count(5) = 16");
    }

    // ---- 17 undo

    @Says("DEEDS from number n on are undone: how many.")
    static void promise17_fromEachNumber(Edge e) {
        for (int n = 0; n <= 16; n++) {
            e.shed("w14 b1");
            for (int i = 0; i < 16; i++) {
                e.due("look(0, 1) = 4");
            }
            e.due("undo(17) = BAD", "undo(" + n + ") = " + (16 - n), "count(5) = " + n,
                    "person(0, 3) = 1 asked " + n);
            e.due("undo(" + (n + 1) + ") = BAD", "undo(" + n + ") = 0", "count(5) = " + n);
        }
    }

    @Says("DEEDS from number n on are undone: how many.")
    static void promise17_weightsAsTheyWere(Edge e) {
        e.shed("w14 e2");
        long[] was = new long[6];
        String[] deeds = {"look(0, 0) = 3", "vain(1) = 2", "look(0, 0) = 2", "vain(3) = 1", "vain(3) = 1"};
        for (int i = 0; i < deeds.length; i++) {
            was[i] = e.digest();
            e.due(deeds[i]);
        }
        for (int n = deeds.length - 1; n >= 0; n--) {
            e.due("undo(" + n + ") = 1").check("as before deed " + n, e.digest(), was[n]);
        }
        e.due(deeds).due("undo(2) = 3").check("as before deed 2", e.digest(), was[2]);
        e.due("look(0, 0) = 2", "likely(2) = 1 told 4/5");
    }

    @Says("BAD.")
    static void promise17_bad(Edge e) {
        e.fresh().due("undo(0) = 0").each("undo(%d) = BAD", Edge.outside(0, 0));
        e.shed("w14 b1").due("undo(0) = 0").each("undo(%d) = BAD", Edge.outside(0, 0));
        e.due("look(0, 0) = 4", "vain(0) = 3").each("undo(%d) = BAD", Edge.outside(0, 2))
                .due("undo(2) = 0", "undo(1) = 1");
    }

    // ---- 18 keep

    @Says("The SHED (WEIGHTS, FLICKS, DEEDS) is kept in a place (0 .. 2): how many DEEDS.")
    static void promise18_noneToSixteenDeeds(Edge e) {
        e.shed("w14 b1");
        for (int i = 0; i < 16; i++) {
            e.due("keep(" + i % 3 + ") = " + i, "count(9) = " + Math.min(i + 1, 3), "look(0, 0) = 4");
        }
        e.due("keep(1) = 16", "keep(1) = 16", "count(9) = 3", "count(5) = 16", "on(2) = 14", "on(0) = 15",
                "on(1) = 16");
        e.due("look(0, 0) = FULL", "on(0) = 15", "look(0, 0) = 4");
    }

    @Says("The SHED (WEIGHTS, FLICKS, DEEDS) is kept in a place (0 .. 2): how many DEEDS.")
    static void promise18_theLatestStays(Edge e) {
        e.shed("w14 p1 b1").due("keep(0) = 0", "look(0, 0) = 1", "keep(0) = 1", "undo(0) = 1", "on(0) = 1",
                "count(4) = 1");
        e.due("undo(0) = 1", "keep(0) = 0", "vain(0) = 3", "on(0) = 0", "count(4) = 4", "count(9) = 1");
    }

    @Says("BAD; STATE: no PERSONS.")
    static void promise18_refused(Edge e) {
        e.fresh().each("keep(%d) = BAD", Edge.outside(0, 2)).each("keep(%d) = STATE", 0, 1, 2).due("count(9) = 0");
        e.text(0, "w14").due("shed(0) = STATE", "keep(0) = STATE").shed("w14 p1")
                .each("keep(%d) = BAD", Edge.outside(0, 2));
        e.due("count(9) = 0", "keep(0) = 0", "keep(2) = 0", "count(9) = 2");
    }

    // ---- 19 on

    @Says("The SHED is as it was kept: how many DEEDS.")
    static void promise19_asItWasKept(Edge e) {
        e.shed("w14 e1 p2").due("flicks(0, 2) = 1", "look(0, 0) = 3", "vain(1) = 2", "keep(2) = 2");
        long then = e.digest();
        e.due("look(1, 0) = 2", "vain(3) = 1", "undo(0) = 4", "flicks(0, 3) = 2", "flicks(1, 1) = 2", "vain(0) = 3");
        e.due("on(2) = 2").check("as it was", e.digest(), then).due("likely(2) = 1 told 2/3", "ways(1, 0, 2) = 1");
        e.due("person(0, 1) = 1 asked 2", "person(1, 1) = 1 asked 2", "person(0, 3) = 1 asked 1", "undo(1) = 1");
        e.due("likely(2) = 1 told 1/2", "look(1, 3) = 2", "on(2) = 2").check("once more", e.digest(), then);
        e.due("lots(3, 9) = 3", "on(2) = 2").check("behind lots", e.digest(), then).due("flicks(0, 1) = STATE");
    }

    @Says("The SHED is as it was kept: how many DEEDS.")
    static void promise19_eachPlaceItsOwn(Edge e) {
        e.shed("w14 b1").due("keep(1) = 0", "vain(0) = 3", "keep(2) = 1", "vain(1) = 2", "keep(0) = 2",
                "vain(2) = 1");
        e.due("on(1) = 0", "count(4) = 4", "on(0) = 2", "count(4) = 2", "on(2) = 1", "count(4) = 3", "count(9) = 3");
        e.due("vain(3) = 2", "on(0) = 2", "best() = 2 asked 2", "on(2) = 1", "best() = 1 asked 3");
    }

    @Says("The SHED is as it was kept: how many DEEDS.")
    static void promise19_rowsAndTextsAreNotOfIt(Edge e) {
        e.shed("w14 b1").due("keep(0) = 0").row(0, 5).due("text(1, 1) = 1", "on(0) = 0").isRow(0, 5)
                .due("count(8) = 2");
    }

    @Says("BAD; NOTHING.")
    static void promise19_refused(Edge e) {
        e.fresh().each("on(%d) = BAD", Edge.outside(0, 2)).each("on(%d) = NOTHING", 0, 1, 2);
        e.shed("w14 b1").each("on(%d) = BAD", Edge.outside(0, 2)).each("on(%d) = NOTHING", 0, 1, 2)
                .due("keep(1) = 0");
        e.due("vain(1) = 3", "on(0) = NOTHING", "on(2) = NOTHING", "count(5) = 1", "on(1) = 0", "shed(3) = 1",
                "on(1) = NOTHING");
    }
}
