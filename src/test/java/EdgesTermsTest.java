/** Boundary cases that "Terms" names. */
final class EdgesTermsTest {
    private static final String LETTERS = "peabol";

    public static void main(String[] args) {
        Edge.runAll(EdgesTermsTest.class);
    }

    // ---- what is refused, and in which order

    @Says({"Refused is, the first of these that fits, in this order: BAD -1 (a number that is none, or not as told),",
        "FULL -2, STATE -4 (not now), SPENT -6 (more than told), FINDING -3 (finding() tells which)", "NONE -9."})
    static void terms_theNumbersOfRefusals(Edge e) {
        e.check("BAD", TurnedLock.BAD, -1).check("FULL", TurnedLock.FULL, -2).check("STATE", TurnedLock.STATE, -4);
        e.check("SPENT", TurnedLock.SPENT, -6).check("FINDING", TurnedLock.FINDING, -3);
        e.check("NONE", TurnedLock.NONE, -9);
    }

    @Says("in this order: BAD -1")
    static void terms_badIsAheadOfState(Edge e) {
        e.fresh().due("keep(3) = BAD", "keep(2) = STATE", "keep(-1) = BAD", "keep(0) = STATE");
        e.due("order(0, 0) = BAD", "order(1, 0) = STATE", "order(41, 0) = BAD", "order(40, 0) = STATE");
        e.due("order(1, 6) = BAD", "order(1, 5) = STATE", "order(1, -1) = BAD");
        e.due("within(217) = BAD", "within(216) = STATE", "within(-1) = BAD", "within(0) = STATE");
        e.due("lots(0, 1) = BAD", "lots(1, 1) = STATE", "lots(9, 1) = BAD", "lots(8, 1) = STATE");
        e.due("lots(1, 0) = BAD", "lots(1, 2147483646) = STATE", "lots(1, 2147483647) = BAD");
        for (String call : new String[] {"fits", "chance", "read"}) {
            e.due(call + "(6) = BAD", call + "(5) = STATE", call + "(-1) = BAD", call + "(0) = STATE");
        }
        e.shed("w14 p1").due("vain(0) = 3");
        e.due("flicks(0, 4) = BAD", "flicks(0, 3) = STATE", "flicks(0, 0) = BAD", "flicks(0, 1) = STATE");
        e.due("flicks(1, 1) = BAD", "flicks(-1, 1) = BAD");
    }

    @Says("in this order: BAD -1")
    static void terms_badIsAheadOfFindings(Edge e) {
        e.fresh().due("row(6, -1) = BAD", "row(5, -1) = SIZE", "row(-1, -1) = BAD", "row(0, -1) = SIZE");
        e.due("text(4, -1) = BAD", "text(3, -1) = SIZE", "text(-1, -1) = BAD", "text(0, -1) = SIZE");
        e.due("copy(6, 0, 0, 0, -1) = BAD", "copy(0, 0, 6, 0, -1) = BAD", "copy(5, 0, 5, 0, -1) = SIZE");
        e.due("lay(6, -1, 0) = BAD", "lay(5, -1, 0) = NOTHING", "at(6, -1) = BAD", "at(5, -1) = NOTHING");
        e.due("tear(6) = BAD", "tear(5) = NOTHING", "mean(6) = BAD", "mean(5) = NOTHING");
        e.due("put(4, -1, 0) = BAD", "put(3, -1, 0) = NOTHING", "fault(4) = BAD", "fault(3) = NOTHING");
        e.due("shed(4) = BAD", "shed(3) = NOTHING", "on(3) = BAD", "on(2) = NOTHING");
        e.shed("w14 p1").due("mark(1, 1) = BAD", "mark(0, 6) = BAD", "mark(0, 0) = BAD", "mark(0, 5) = UNLIKE");
        e.due("look(0, 0) = 1", "look(0, 4) = BAD", "look(0, 3) = NOUGHT", "look(1, 3) = BAD");
        e.due("vain(4) = BAD", "vain(3) = NOUGHT", "vain(-1) = BAD");
        e.due("fits(6) = BAD", "fits(5) = NOTHING");
    }

    @Says("STATE -4 (not now), SPENT -6 (more than told), FINDING -3")
    static void terms_stateIsAheadOfFindings(Edge e) {
        for (String call : new String[] {"fits", "chance", "read"}) {
            e.fresh().due(call + "(0) = STATE").row(0, 1).due(call + "(0) = STATE");
            e.row(0, 9, 9).due(call + "(0) = STATE");
            e.shed("w14 p1").due(call + "(0) = NOTHING").row(0, 1).due(call + "(0) = SIZE");
            e.row(0, 9, 9).due(call + "(0) = UNLIKE");
        }
    }

    @Says("unless a call says so otherwise.")
    static void terms_callsThatSayOtherwise(Edge e) {
        e.fresh().due("shed(0) = NOTHING", "text(0, 1) = 1", "shed(0) = STATE");
        e.shed("w14 p1");
        for (int i = 0; i < 16; i++) {
            e.due("look(0, 0) = 1");
        }
        e.due("look(0, 1) = NOUGHT", "look(0, 0) = FULL", "vain(3) = NOUGHT", "vain(0) = FULL");
    }

    @Says("What is refused changes nothing but finding(), findings().")
    static void terms_refusedChangesNothing(Edge e) {
        long[] kept = fill(e);
        long before = e.digest();
        refuseEverything(e);
        e.check("all as it was", e.digest(), before);
        for (int k = 0; k < 3; k++) {
            e.due("on(" + k + ") = " + k);
            e.check("kept as it was", e.digest(), kept[k]);
        }
    }

    /** A SHED with something in every place; what digest() is by each of the kept ones. */
    private static long[] fill(Edge e) {
        e.shed("w24 p1 e2 a3 b1 o2").row(0).row(1, 7, -8).row(2, 9, 9).row(3, 0, 0, 0).row(4, 0, 1, 0, 3);
        e.text(0, "w14 p4").text(1, "");
        e.due("person(1, 2) = 1 asked 4", "likely(3) = 1 told 1/16");
        e.due("keep(0) = 0", "look(1, 2) = 3", "keep(1) = 1", "vain(0) = 2", "keep(2) = 2");
        long[] kept = new long[3];
        for (int k = 0; k < 3; k++) {
            e.due("on(" + k + ") = " + k);
            kept[k] = e.digest();
        }
        for (int i = 0; i < 13; i++) {
            e.due("look(3, 0) = 2");
        }
        e.due("look(0, 2) = 1", "who(0, 1) = 15 asked 0", "wheel(0, 0) = 1 told 1/1");
        return kept;
    }

    private static void refuseEverything(Edge e) {
        e.due("row(6, 1) = BAD", "row(0, 41) = BAD", "row(1, -1) = SIZE", "lay(6, 0, 1) = BAD",
                "lay(5, 0, 1) = NOTHING");
        e.due("lay(1, 2, 1) = BEYOND", "lay(1, -1, 1) = BEYOND", "at(-1, 0) = BAD", "at(5, 0) = NOTHING");
        e.due("at(0, 0) = BEYOND", "tear(6) = BAD", "tear(5) = NOTHING", "copy(0, 0, 6, 0, 0) = BAD");
        e.due("copy(1, 0, 3, 0, -1) = SIZE", "copy(1, 0, 5, 0, 1) = NOTHING", "copy(1, 0, 3, 2, 2) = BEYOND");
        e.due("copy(1, 1, 3, 0, 2) = BEYOND", "mean(6) = BAD", "mean(5) = NOTHING", "mean(0) = NOUGHT");
        e.due("text(4, 1) = BAD", "text(0, 61) = BAD", "text(0, -1) = SIZE", "put(4, 0, 1) = BAD");
        e.due("put(2, 0, 1) = NOTHING", "put(0, 6, 1) = BEYOND", "fault(4) = BAD", "fault(2) = NOTHING");
        e.due("shed(4) = BAD", "shed(2) = NOTHING", "shed(0) = STATE", "shed(1) = STATE", "person(5, 0) = BAD");
        e.due("person(0, 4) = BAD", "mark(5, 1) = BAD", "mark(0, 0) = BAD", "mark(0, 1) = UNLIKE",
                "flicks(0, 4) = BAD");
        e.due("flicks(0, 2) = STATE", "look(5, 0) = BAD", "look(0, 16) = BAD", "look(0, 3) = NOUGHT");
        e.due("look(3, 5) = FULL", "vain(16) = BAD", "vain(1) = NOUGHT", "vain(5) = FULL", "undo(17) = BAD");
        e.due("undo(-1) = BAD", "keep(3) = BAD", "on(3) = BAD", "likely(16) = BAD", "wheel(2, 0) = BAD");
        e.due("wheel(0, 4) = BAD", "order(0, 1) = BAD", "order(41, 1) = BAD", "order(1, 6) = BAD",
                "within(217) = BAD");
        e.due("worth(5) = BAD", "seen(5, 0) = BAD", "seen(0, 16) = BAD", "sights(5) = BAD");
        for (String call : new String[] {"fits", "chance", "read"}) {
            e.due(call + "(6) = BAD", call + "(5) = NOTHING", call + "(3) = SIZE", call + "(2) = UNLIKE");
        }
        e.due("read(4) = NOUGHT", "who(16, 0) = BAD", "ways(5, 0, 0) = BAD", "ways(0, 0, 16) = BAD");
        e.due("apart(0, 16) = BAD", "near(16, 0) = BAD", "near(0, 10) = BAD", "lots(0, 1) = BAD", "lots(9, 1) = BAD");
        e.due("lots(1, 0) = BAD", "lots(1, MAX) = BAD", "count(10) = BAD", "findings(6) = BAD");
    }

    @Says("FINDINGS: 1 NOTHING (a ROW, a TEXT, a kept SHED that is missing),")
    static void terms_nothing(Edge e) {
        e.fresh().due("at(0, 0) = NOTHING", "put(0, 0, 0) = NOTHING", "on(0) = NOTHING", "finding() = 1");
        e.due("findings(1) = 3", "row(0, 1) = 1", "at(0, 0) = 1", "text(0, 1) = 1", "put(0, 0, 0) = 1032");
        e.due("tear(0) = 1", "at(0, 0) = NOTHING", "findings(1) = 4");
    }

    @Says("2 BEYOND (a place that there is not),")
    static void terms_beyond(Edge e) {
        e.fresh().due("row(0, 1) = 1", "at(0, -1) = BEYOND", "at(0, 0) = 1", "at(0, 1) = BEYOND", "finding() = 2");
        e.due("text(0, 1) = 1", "put(0, -1, 0) = BEYOND", "put(0, 0, 0) = 1032", "put(0, 1, 0) = BEYOND");
        e.due("findings(2) = 4");
    }

    @Says("3 UNLIKE (a PERSON of another KIND; a number that is none),")
    static void terms_unlike(Edge e) {
        e.shed("w14 p1").due("mark(0, 1) = UNLIKE", "finding() = 3").row(0, 1, 0).due("fits(0) = UNLIKE");
        e.row(0, 0, 4).due("fits(0) = UNLIKE", "findings(3) = 3");
    }

    @Says("4 NOUGHT (shared among none; it can't be),")
    static void terms_nought(Edge e) {
        e.shed("w14 p1").due("row(0, 0) = 0", "mean(0) = NOUGHT", "finding() = 4", "row(0, 1) = 1",
                "mean(0) = 1 asked 0");
        e.due("look(0, 0) = 1", "look(0, 1) = NOUGHT", "findings(4) = 2");
    }

    @Says("5 SIZE (fewer than none; not as many as due).")
    static void terms_size(Edge e) {
        e.shed("w14 p1").due("row(0, -1) = SIZE", "finding() = 5", "row(0, 0) = 0", "fits(0) = 4 asked 0");
        e.due("row(0, 1) = 1", "fits(0) = SIZE", "row(0, 2) = 2", "fits(0) = 1 asked 3", "findings(5) = 2");
    }

    // ---- how chances and sets are told

    @Says("Chances, means are told by upper(), lower(), in lowest terms,")
    static void terms_lowestTerms(Edge e) {
        e.shed("w16 p2").due("within(1) = 1 told 1/6", "within(2) = 1 told 1/3", "within(3) = 1 told 1/2");
        e.due("within(4) = 1 told 2/3", "within(5) = 1 told 5/6", "tries() = 1 told 7/2");
        e.due("vain(3) = 5", "tries() = 1 told 3/1", "vain(0) = 4", "tries() = 1 told 5/2");
    }

    @Says("the lower number above 0 (0 by 1).")
    static void terms_noughtByOne(Edge e) {
        e.shed("w16 p2").due("within(1) = 1 told 1/6", "within(0) = 1 told 0/1", "within(6) = 1 told 1/1");
        e.due("vain(5) = 5", "likely(4) = 1 told 1/5", "likely(5) = 1 told 0/1", "wheel(0, 5) = 1 told 0/1");
        e.due("look(0, 0) = 1", "seen(0, 0) = 1 told 1/2", "seen(0, 3) = 1 told 0/1");
        e.row(0, 0, 0, 0, 3).due("tries() = 1 told 1/1", "chance(0) = 1 told 0/1");
    }

    @Says("Sets (of PERSONS) are told by bits.")
    static void terms_setsAreBits(Edge e) {
        e.shed("w14 p1 p2 p3 e1 b1").due("who(0, 0) = 16 asked 4", "who(0, 1) = 31 asked 0");
        e.due("who(0, 2) = 22 asked 1", "who(0, 3) = 28 asked 3");
        e.shed("w14 p1").due("who(0, 0) = 0 asked NONE", "who(0, 1) = 1 asked 0", "who(0, 2) = 0 asked NONE");
    }

    // ---- rows and texts

    @Says({"1 ROWS 0 .. 5 are rows of 0 to 40 ints,", "or missing (at first)."})
    static void terms1_rows(Edge e) {
        e.fresh().each("tear(%d) = NOTHING", 0, 1, 2, 3, 4, 5).each("tear(%d) = BAD", Edge.outside(0, 5));
        for (int r = 0; r <= 5; r++) {
            e.due("row(" + r + ", " + 8 * r + ") = " + 8 * r, "count(7) = " + (r + 1));
        }
        e.due("at(0, 0) = BEYOND", "at(5, 39) = 1 asked 0", "at(5, 40) = BEYOND", "row(5, 41) = BAD");
        e.due("lay(5, 39, MIN) = 1", "at(5, 39) = 1 asked MIN", "lay(5, 0, MAX) = 1", "at(5, 0) = 1 asked MAX");
        e.due("at(4, 0) = 1 asked 0", "at(4, 31) = 1 asked 0", "at(4, 32) = BEYOND");
        e.due("tear(3) = 1", "tear(3) = NOTHING", "at(2, 15) = 1", "at(4, 31) = 1", "count(7) = 5");
    }

    @Says({"TEXTS 0 .. 3 rows of 0 to 60 bytes,", "or missing (at first)."})
    static void terms1_texts(Edge e) {
        e.fresh().each("fault(%d) = NOTHING", 0, 1, 2, 3).each("fault(%d) = BAD", Edge.outside(0, 3));
        for (int t = 0; t <= 3; t++) {
            e.due("text(" + t + ", " + 20 * t + ") = " + 20 * t, "count(8) = " + (t + 1));
        }
        e.due("put(0, 0, 1) = BEYOND", "put(3, 59, 127) = 1032", "put(3, 60, 1) = BEYOND", "text(3, 61) = BAD");
        e.due("put(3, 59, -128) = 1127", "put(3, 59, 128) = 872", "put(3, 59, 0) = 872", "put(3, 59, 0) = 1000");
        e.due("put(2, 0, 9) = 1032", "put(2, 39, 9) = 1032", "put(2, 40, 9) = BEYOND", "put(1, 19, 9) = 1032");
    }

    // ---- the small language

    @Says("A SHED (without PERSONS at first) is a TEXT:")
    static void terms1_noPersonsAtFirst(Edge e) {
        e.fresh().each("count(%d) = 0", 0, 1, 2, 3, 4, 5, 6).due("person(0, 0) = BAD", "best() = STATE");
        e.text(0, "w14 p1").due("count(0) = 0", "best() = STATE", "shed(0) = 1", "count(0) = 1", "best() = 0");
    }

    @Says("blanks (32) ahead, between, behind as many as wanted,")
    static void terms1_blanksAsManyAsWanted(Edge e) {
        String none = "w14p1e1";
        String all = " ".repeat(53);
        for (String signs : new String[] {none, all + none, none + all, "w14" + all + "p1e1", "w14p1" + all + "e1",
            " w14 p1 e1 ", "  w14  p1  e1  "}) {
            e.fresh().text(0, signs).due("fault(0) = NONE", "shed(0) = 2");
        }
        for (int place : new int[] {0, 4, 7, 10}) {
            for (int sign : new int[] {31, 33, 0, 9, 10, 160 - 256}) {
                e.fresh().text(0, " w14 p1 e1 ").due("put(0, " + place + ", " + sign + ") = 1032");
                e.due("fault(0) = " + place, "shed(0) = STATE");
            }
        }
    }

    @Says("none within items.")
    static void terms1_noBlanksWithinItems(Edge e) {
        faults(e, "w 14p1", 1, "w1 4p1", 2, "w14p 1", 4, "w14 p1 e 1", 8, "w14p1", TurnedLock.NONE);
    }

    private static void faults(Edge e, Object... textsAndPlaces) {
        for (int i = 0; i < textsAndPlaces.length; i += 2) {
            e.fresh().text(0, (String) textsAndPlaces[i]);
            e.due("fault(0) = " + textsAndPlaces[i + 1]);
            e.check("shed(0) of '" + textsAndPlaces[i] + "' is refused",
                    e.digest() == afterShed(textsAndPlaces[i]) ? 1 : 0,
                    textsAndPlaces[i + 1].equals(TurnedLock.NONE) ? 0 : 1);
        }
    }

    private static long afterShed(Object signs) {
        TurnedLock x = new TurnedLock();
        Check.write(x, 0, (String) signs);
        x.shed(0);
        return x.digest();
    }

    /** Every byte at one place of a TEXT that has no FAULT: which of them may stand there,
            where else the FAULT is. */
    private static void everyByte(Edge e, int place, String mayStand, int byBlank) {
        for (int sign = -128; sign <= 127; sign++) {
            int due = mayStand.indexOf((char) sign) >= 0 ? TurnedLock.NONE : sign == 32 ? byBlank : place;
            e.fresh().text(0, "w14p1".substring(0, place) + (char) (sign & 255) + "w14p1".substring(place + 1));
            e.due("fault(0) = " + due);
        }
    }

    @Says("The first item is w (119),")
    static void terms1_firstItem(Edge e) {
        everyByte(e, 0, "w", 1);
        faults(e, "v14p1", 0, "x14p1", 0, "W14p1", 0, "p1", 0, " p1 w14", 1, "w14p1w14", 5, "w14w14p1", 3);
    }

    @Says("how many WHEELS (one figure 1 .. 3),")
    static void terms1_wheels(Edge e) {
        everyByte(e, 1, "123", 1);
        faults(e, "w04p1", 1, "w44p1", 1, "w114p1", 2, "wp1", 1);
        for (int w = 1; w <= 3; w++) {
            e.shed("w" + w + "4 p1").due("count(1) = " + w, "wheel(" + (w - 1) + ", 0) = 1 told 1/4");
            e.due("wheel(" + w + ", 0) = BAD");
        }
    }

    @Says("how many NOTCHES each has (one figure 4 .. 6).")
    static void terms1_notches(Edge e) {
        everyByte(e, 2, "456", 2);
        faults(e, "w13p1", 2, "w17p1", 2, "w144p1", 3, "w1p1", 2);
        for (int n = 4; n <= 6; n++) {
            e.shed("w2" + n + " p1").due("count(2) = " + n, "wheel(1, " + (n - 1) + ") = 1 told 1/" + n);
            e.due("wheel(1, " + n + ") = BAD");
        }
    }

    @Says({"Then PERSONS (1 to 5; 0, 1, .. as they come):", "there is no PERSON,"})
    static void terms1_oneToFivePersons(Edge e) {
        faults(e, "w14", 3, "w14  ", 5, "w14p1", TurnedLock.NONE, "w14p1p1p1p1p1", TurnedLock.NONE,
                "w14p1p1p1p1p1  ", TurnedLock.NONE, "w14p1p1p1p1p1p1", 13, "w14p1p1p1p1p1  p1", 15);
        e.shed("w14 p3").due("count(0) = 1", "person(0, 1) = 1 asked 3", "person(1, 1) = BAD");
        e.shed("w14 p3 e2 a1 b3 o2").due("count(0) = 5", "person(0, 0) = 1 asked 0", "person(1, 0) = 1 asked 1");
        e.due("person(2, 0) = 1 asked 2", "person(3, 0) = 1 asked 3", "person(4, 0) = 1 asked 4");
        e.due("person(0, 1) = 1 asked 3", "person(1, 1) = 1 asked 2", "person(2, 1) = 1 asked 1");
        e.due("person(3, 1) = 1 asked 3", "person(4, 1) = 1 asked 2", "person(5, 0) = BAD");
    }

    @Says("a letter, FLICKS (one figure 1 .. 3).")
    static void terms1_letterAndFlicks(Edge e) {
        everyByte(e, 3, LETTERS, 4);
        everyByte(e, 4, "123", 4);
        faults(e, "w14p0", 4, "w14p4", 4, "w14p11", 5, "w14P1", 3, "w141", 3, "w14pp1", 4);
        for (int f = 1; f <= 3; f++) {
            e.shed("w14 p" + f).due("person(0, 1) = 1 asked " + f);
        }
    }

    @Says("A FAULT is the first place at which it can't go on so")
    static void terms1_theFirstFault(Edge e) {
        faults(e, "x04x9", 0, "w04x9", 1, "w13x9", 2, "w14x9", 3, "w14p9x", 4, "w14p1x9", 5, "w14p1 e1 x w", 9);
    }

    @Says("(a letter, a figure that is none such, a sixth PERSON: its place;")
    static void terms1_theFaultsPlace(Edge e) {
        faults(e, "  w14 q1", 6, "  w14 p7", 7, "w15 p1 e2 a3 b1 o2", TurnedLock.NONE, "w15 p1 e2 a3 b1 o2 l", 19,
                "w15 p1 e2 a3 b1 o2 l3", 19, "w15 p1 e2 a3 b1 o2 9", 19, "w15 p1 e2 a3 b1 o2l3", 18);
        String far = "w14p1" + " ".repeat(53);
        faults(e, far + "e1", TurnedLock.NONE, far + " e", 60, far + " 1", 59, far + "x1", 58);
    }

    @Says({"the TEXT's size, if its end comes too early, or", "or there are blanks alone)."})
    static void terms1_theEndTooEarly(Edge e) {
        String whole = " w14 p1 e2";
        int[] due = {0, 1, 2, 3, 4, 5, 6, TurnedLock.NONE, TurnedLock.NONE, 9, TurnedLock.NONE};
        for (int n = 0; n < due.length; n++) {
            faults(e, whole.substring(0, n), due[n]);
        }
        faults(e, " ".repeat(59), 59, " ".repeat(60), 60, " ".repeat(59) + "w", 60, "w14" + " ".repeat(57), 60);
    }

    // ---- kinds and settings

    @Says({"KINDS of PERSONS and letters: 0 PERSON (p, 112), 1 EITHER (e, 101; a PERSON), 2 ANY (a, 97; a PERSON),",
        "3 BLIND (b, 98; a PERSON), 4 BOTH (o, 111; an EITHER), 5 ALL (l, 108; an ANY)."})
    static void terms1_kinds(Edge e) {
        int[] letters = {112, 101, 97, 98, 111, 108};
        String u = "UNLIKE";
        String[][] marks = {{u, u, u, u, u}, {"2", u, u, u, u}, {u, "1", u, u, u}, {u, u, "16", u, u},
            {"4", u, u, "2", u}, {u, "2", u, u, "4"}};
        for (int kind = 0; kind < 6; kind++) {
            e.shed("w24 " + (char) letters[kind] + "1").due("person(0, 0) = 1 asked " + kind, "mark(0, 0) = BAD");
            for (int of = 1; of <= 5; of++) {
                e.due("mark(0, " + of + ") = " + marks[kind][of - 1]);
            }
        }
    }

    @Says({"A SETTING is a number: that of each WHEEL 0, 1, .., from WHEEL 0 on,",
        "each time NOTCHES times that ahead, and its NOTCH (0 ..)."})
    static void terms1_settings(Edge e) {
        int[][] many = {{4, 5, 6}, {16, 25, 36}, {64, 125, 216}};
        for (int w = 1; w <= 3; w++) {
            for (int n = 4; n <= 6; n++) {
                int all = many[w - 1][n - 4];
                e.shed("w" + w + n + " p1").due("count(3) = " + all, "likely(0) = 1 told 1/" + all,
                        "likely(-1) = BAD");
                e.due("likely(" + (all - 1) + ") = 1 told 1/" + all, "likely(" + all + ") = BAD");
            }
        }
        e.shed("w36 p1").due("look(0, 51) = 1", "best() = 50 asked 1", "certain() = 7 asked 122");
        e.due("undo(0) = 1", "look(0, 0) = 1", "certain() = 7 asked 5", "undo(0) = 1", "look(0, 215) = 1");
        e.due("certain() = 7 asked 554", "undo(0) = 1", "look(0, 180) = 1", "certain() = 7 asked 505");
    }

    @Says("Behind the last NOTCH comes 0 again, up; down the other way.")
    static void terms1_aroundTheWheel(Edge e) {
        for (int n = 4; n <= 6; n++) {
            int last = n - 1;
            e.shed("w2" + n + " p1 e1 a1").due("ways(0, " + last + ", 0) = 1",
                    "ways(0, " + last + ", " + n + ") = 0");
            e.due("ways(0, " + (last - 1) + ", " + last + ") = 1", "ways(0, " + (last - 1) + ", 0) = 0");
            e.due("ways(1, 0, " + last + ") = 1", "ways(1, 1, 0) = 1", "ways(1, 1, " + last + ") = 0");
            e.due("ways(1, " + n + ", " + (n + last) + ") = 1", "ways(1, " + n + ", " + last + ") = 0");
            e.due("ways(2, " + n * last + ", 0) = 1", "ways(2, " + n * (last - 1) + ", 0) = 0");
            e.due("ways(2, " + (n * n - 1) + ", " + (n * n - n) + ") = 1",
                    "ways(2, " + (n * n - 1) + ", " + last + ") = 1");
            e.due("ways(2, " + (n * n - 1) + ", 0) = 0");
        }
    }

    @Says({"The CODE is a SETTING; who shuts the lock turns it from the CODE to one that is SEEN,",
        "in one of so many WAYS,"})
    static void terms1_fromTheCode(Edge e) {
        e.shed("w14 p1").due("ways(0, 1, 2) = 1", "ways(0, 2, 1) = 0", "ways(0, 3, 0) = 1", "ways(0, 0, 3) = 0");
        e.due("ways(0, 4, 0) = BAD", "ways(0, 0, 4) = BAD", "ways(0, -1, 0) = BAD", "ways(0, 0, -1) = BAD");
    }

    @Says("alike likely:")
    static void terms1_alikeLikely(Edge e) {
        e.shed("w14 p3 e2").due("vain(1) = 3", "vain(2) = 2", "vain(3) = 1");
        e.each("seen(0, %d) = 1 told 1/3", 1, 2, 3).due("seen(0, 0) = 1 told 0/1");
        e.due("seen(1, 0) = 1 told 0/1", "seen(1, 1) = 1 told 1/4", "seen(1, 2) = 1 told 1/2",
                "seen(1, 3) = 1 told 1/4");
    }

    /** In how many WAYS PERSON 0 turns the last WHEEL up by 0, 1, .. from each CODE of one WHEEL. */
    private static void waysUp(Edge e, String signs, int... due) {
        e.shed(signs);
        int inAll = 0;
        for (int up = 0; up < due.length; up++) {
            inAll += due[up];
            for (int code = 0; code < due.length; code++) {
                e.due("ways(0, " + code + ", " + (code + up) % due.length + ") = " + due[up]);
            }
        }
        e.due("person(0, 2) = 1 asked " + inAll, "count(3) = " + due.length);
    }

    @Says("a PERSON turns the last WHEEL up by 1 .. FLICKS;")
    static void terms1_person(Edge e) {
        waysUp(e, "w14 p1", 0, 1, 0, 0);
        waysUp(e, "w14 p2", 0, 1, 1, 0);
        waysUp(e, "w14 p3", 0, 1, 1, 1);
        waysUp(e, "w15 p3", 0, 1, 1, 1, 0);
        waysUp(e, "w16 p3", 0, 1, 1, 1, 0, 0);
        e.shed("w34 p3").due("ways(0, 0, 3) = 1", "ways(0, 0, 4) = 0", "ways(0, 0, 16) = 0", "ways(0, 0, 0) = 0");
    }

    @Says("an EITHER up or down by 1 .. FLICKS (so twice as many WAYS);")
    static void terms1_either(Edge e) {
        waysUp(e, "w14 e1", 0, 1, 0, 1);
        waysUp(e, "w15 e1", 0, 1, 0, 0, 1);
        waysUp(e, "w15 e2", 0, 1, 1, 1, 1);
        waysUp(e, "w16 e1", 0, 1, 0, 0, 0, 1);
        waysUp(e, "w16 e2", 0, 1, 1, 0, 1, 1);
        e.shed("w34 e3").due("ways(0, 0, 3) = 2", "ways(0, 0, 4) = 0", "ways(0, 0, 16) = 0", "ways(0, 0, 0) = 0");
        for (int f = 1; f <= 3; f++) {
            e.shed("w35 e" + f).due("person(0, 2) = 1 asked " + 2 * f);
        }
    }

    @Says("Unlike WAYS may lead to the same SETTING: each counts.")
    static void terms1_unlikeWaysToTheSame(Edge e) {
        waysUp(e, "w14 e2", 0, 1, 2, 1);
        waysUp(e, "w14 e3", 0, 2, 2, 2);
        waysUp(e, "w15 e3", 0, 1, 2, 2, 1);
        waysUp(e, "w16 e3", 0, 1, 1, 2, 1, 1);
        e.shed("w24 o2").due("ways(0, 0, 5) = 1", "ways(0, 0, 6) = 2", "ways(0, 0, 9) = 2", "ways(0, 0, 10) = 4");
        e.due("look(0, 10) = 9", "likely(0) = 1 told 1/4", "likely(1) = 1 told 1/8", "likely(5) = 1 told 1/16");
    }

    @Says("an ANY some one WHEEL (any of them) up by 1 .. FLICKS;")
    static void terms1_any(Edge e) {
        waysUp(e, "w14 a3", 0, 1, 1, 1);
        waysUp(e, "w16 a2", 0, 1, 1, 0, 0, 0);
        e.shed("w35 a2").due("person(0, 2) = 1 asked 6", "ways(0, 0, 0) = 0");
        for (int wheel : new int[] {1, 5, 25}) {
            e.due("ways(0, 0, " + wheel + ") = 1", "ways(0, 0, " + 2 * wheel + ") = 1");
            e.due("ways(0, 0, " + 3 * wheel + ") = 0", "ways(0, 0, " + 4 * wheel + ") = 0");
        }
        e.due("ways(0, 0, 6) = 0", "ways(0, 0, 26) = 0", "ways(0, 0, 30) = 0", "ways(0, 0, 31) = 0");
    }

    @Says("a BLIND one turns it to any SETTING (each once);")
    static void terms1_blind(Edge e) {
        waysUp(e, "w14 b1", 1, 1, 1, 1);
        waysUp(e, "w16 b3", 1, 1, 1, 1, 1, 1);
        e.shed("w36 b2").due("person(0, 2) = 1 asked 216", "ways(0, 0, 0) = 1", "ways(0, 0, 215) = 1",
                "ways(0, 215, 0) = 1");
        e.due("look(0, 99) = 216", "likely(99) = 1 told 1/216");
    }

    @Says("a BOTH each of the last two WHEELS (one, if there is but one) as an EITHER would;")
    static void terms1_both(Edge e) {
        waysUp(e, "w14 o1", 0, 1, 0, 1);
        waysUp(e, "w15 o3", 0, 1, 2, 2, 1);
        waysUp(e, "w16 o3", 0, 1, 1, 2, 1, 1);
        e.shed("w24 o1").due("person(0, 2) = 1 asked 4", "ways(0, 0, 0) = 0", "ways(0, 0, 1) = 0",
                "ways(0, 0, 4) = 0");
        e.each("ways(0, 0, %d) = 1", 5, 7, 13, 15).each("ways(0, 0, %d) = 0", 6, 9, 10, 11, 14);
        e.shed("w34 o1").due("person(0, 2) = 1 asked 4").each("ways(0, 0, %d) = 1", 5, 7, 13, 15);
        e.each("ways(0, 0, %d) = 0", 0, 1, 4, 16, 17, 20, 21, 53);
        e.shed("w36 o3").due("person(0, 2) = 1 asked 36", "ways(0, 0, 21) = 4", "ways(0, 0, 20) = 2",
                "ways(0, 0, 7) = 1");
    }

    @Says("an ALL each WHEEL up by 0 .. FLICKS.")
    static void terms1_all(Edge e) {
        waysUp(e, "w14 l1", 1, 1, 0, 0);
        waysUp(e, "w14 l3", 1, 1, 1, 1);
        waysUp(e, "w15 l3", 1, 1, 1, 1, 0);
        waysUp(e, "w16 l2", 1, 1, 1, 0, 0, 0);
        e.shed("w34 l1").due("person(0, 2) = 1 asked 8").each("ways(0, 0, %d) = 1", 0, 1, 4, 5, 16, 17, 20, 21);
        e.each("ways(0, 0, %d) = 0", 2, 3, 8, 12, 32, 48, 63);
        e.shed("w36 l3").due("person(0, 2) = 1 asked 64", "ways(0, 0, 129) = 1", "ways(0, 0, 130) = 0");
    }

    // ---- weights

    @Says("2 The WEIGHT of each SETTING as the CODE is 1 at first.")
    static void terms2_weightsAtFirst(Edge e) {
        e.shed("w14 e2").each("likely(%d) = 1 told 1/4", 0, 1, 2, 3).due("count(4) = 4");
        e.shed("w36 b1").each("likely(%d) = 1 told 1/216", 0, 1, 214, 215).due("count(4) = 216");
    }

    @Says({"A LOOK at how a PERSON left it, a SETTING that is SEEN:",
        "each WEIGHT times in how many of that PERSON's WAYS it comes from there."})
    static void terms2_aLook(Edge e) {
        e.shed("w14 e2").due("look(0, 0) = 3", "likely(0) = 1 told 0/1", "likely(1) = 1 told 1/4");
        e.due("likely(2) = 1 told 1/2", "likely(3) = 1 told 1/4", "look(0, 0) = 3", "likely(2) = 1 told 2/3");
        e.due("look(0, 0) = 3", "likely(2) = 1 told 4/5", "likely(3) = 1 told 1/10", "look(0, 1) = 2");
        e.due("likely(2) = 1 told 4/5", "likely(3) = 1 told 1/5", "likely(1) = 1 told 0/1");
    }

    @Says("A TRY in vain: the WEIGHT of that SETTING is 0.")
    static void terms2_aTry(Edge e) {
        e.shed("w14 e2").due("vain(2) = 3", "likely(2) = 1 told 0/1", "likely(1) = 1 told 1/3", "vain(2) = 3");
        e.due("look(0, 0) = 2", "likely(2) = 1 told 0/1", "likely(3) = 1 told 1/2");
    }

    @Says("The chance of a CODE is its WEIGHT by all WEIGHTS.")
    static void terms2_chances(Edge e) {
        e.shed("w14 e2").due("look(0, 0) = 3", "vain(1) = 2", "likely(2) = 1 told 2/3", "likely(3) = 1 told 1/3");
        e.due("vain(2) = 1", "likely(3) = 1 told 1/1");
    }

    @Says("LOOKS (the CODE is not changed), TRIES are DEEDS (16 at most).")
    static void terms2_deeds(Edge e) {
        e.shed("w14 p1 b1").due("look(0, 1) = 1", "look(0, 1) = 1", "best() = 0 asked 1", "count(5) = 2");
        e.due("undo(0) = 2");
        for (int i = 0; i < 8; i++) {
            e.due("look(1, 3) = " + (i == 0 ? 4 : 3), "count(5) = " + (2 * i + 1), "vain(3) = 3",
                    "count(5) = " + (2 * i + 2));
        }
        e.due("look(1, 3) = FULL", "vain(3) = FULL", "undo(15) = 1", "look(1, 0) = 3", "look(1, 0) = FULL");
        e.due("undo(14) = 2", "vain(0) = 2", "vain(1) = 1", "vain(1) = FULL", "count(5) = 16");
    }

    // ---- told looks

    @Says({"(a ROW of pairs: a PERSON, what was SEEN; 6 pairs at most;", "SIZE: not so many, not by pairs;"})
    static void terms6_sixPairs(Edge e) {
        for (String call : new String[] {"fits(0)", "chance(0)", "read(0)"}) {
            String due = call.equals("read(0)") ? " = 3" : " = 1";
            e.shed("w14 p1");
            for (int n = 2; n <= 12; n += 2) {
                e.due("row(0, " + (n - 1) + ") = " + (n - 1), call + " = SIZE", "row(0, " + n + ") = " + n,
                        call + due);
            }
            for (int n : new int[] {13, 14, 15, 16, 39, 40}) {
                e.due("row(0, " + n + ") = " + n, call + " = SIZE");
            }
            e.due("row(0, 0) = 0",
                    call + (call.equals("fits(0)") ? " = 4" : call.equals("read(0)") ? " = 0" : " = 1"));
        }
    }

    @Says("UNLIKE: no PERSON, no SETTING)")
    static void terms6_unlike(Edge e) {
        for (String call : new String[] {"fits(0)", "chance(0)", "read(0)"}) {
            e.shed("w14 p1 p1").row(0, 1, 0).due(call + (call.equals("read(0)") ? " = 3" : " = 1"));
            e.row(0, 0, 3).due(call + (call.equals("read(0)") ? " = 2" : " = 1"));
            for (int p : Edge.outside(0, 1)) {
                e.row(0, p, 0).due(call + " = UNLIKE").row(0, 0, 0, p, 0).due(call + " = UNLIKE");
            }
            for (int s : Edge.outside(0, 3)) {
                e.row(0, 0, s).due(call + " = UNLIKE");
                e.row(0, 0, 0, 0, 0, 0, 0, 0, 0, 0, 0, 0, s).due(call + " = UNLIKE");
            }
        }
    }

    @Says("aside, from WEIGHTS 1.")
    static void terms6_aside(Edge e) {
        e.shed("w14 p2").due("vain(1) = 3", "look(0, 2) = 1").row(0, 0, 3);
        e.due("fits(0) = 2 asked 1", "chance(0) = 1 told 1/4", "read(0) = 1", "count(5) = 2", "count(4) = 1");
        e.due("best() = 0 asked 1", "person(0, 3) = 1 asked 1");
    }
}
