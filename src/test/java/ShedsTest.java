/** Promises 8 to 14: texts, sheds, persons. */
final class ShedsTest {
    private static final int NOTHING = 1, BEYOND = 2, UNLIKE = 3, SIZE = 5;
    private static final Check CHECK = new Check();

    public static void main(String[] args) {
        text();
        put();
        fault();
        shed();
        person();
        mark();
        flicks();
        CHECK.end();
    }

    private static void text() {
        TurnedLock x = new TurnedLock();
        CHECK.due("8 text(0, 0)", x.text(0, 0), 0);
        CHECK.due("8 text(3, 60)", x.text(3, 60), 60);
        CHECK.due("8 two texts", x.count(8), 2);
        CHECK.due("8 a blank", x.put(3, 59, 65), 1032);
        CHECK.due("8 anew", x.text(3, 60), 60);
        CHECK.due("8 blanks again", x.put(3, 59, 65), 1032);
        x.put(3, 0, 65);
        x.text(3, 1);
        CHECK.due("8 the first is a blank, too", x.put(3, 0, 65), 1032);
        CHECK.bad("8", x.text(-1, 1), x.text(4, 1), x.text(0, 61), x.text(4, -1),
                x.text(0, Integer.MAX_VALUE));
        CHECK.finding(x, "8 text(0, -1)", () -> x.text(0, -1), SIZE);
    }

    private static void put() {
        TurnedLock x = new TurnedLock();
        CHECK.bad("9", x.put(-1, 0, 0), x.put(4, 0, 0));
        CHECK.finding(x, "9 put into nothing", () -> x.put(0, -1, 0), NOTHING);
        x.text(0, 2);
        CHECK.due("9 put", x.put(0, 1, 200), 1032);
        CHECK.due("9 a byte below 0", x.put(0, 1, 128), 944);
        CHECK.due("9 the least byte", x.put(0, 1, 256 + 127), 872);
        CHECK.due("9 cut", x.put(0, 1, -1), 1127);
        CHECK.due("9 -1 stays", x.put(0, 1, Integer.MIN_VALUE), 999);
        CHECK.due("9 cut to 0", x.put(0, 1, 5), 1000);
        for (int i : new int[] {-1, 2, 60, Integer.MAX_VALUE, Integer.MIN_VALUE}) {
            CHECK.finding(x, "9 beyond " + i, () -> x.put(0, i, 1), BEYOND);
        }
    }

    private static void fault(String signs, int due) {
        TurnedLock x = new TurnedLock();
        Check.write(x, 1, signs);
        CHECK.due("10 fault of '" + signs + "'", x.fault(1), due);
        CHECK.due("11 shed of '" + signs + "'", x.shed(1) > 0 ? 1 : x.shed(1),
                due == TurnedLock.NONE ? 1 : TurnedLock.STATE);
    }

    private static void fault() {
        TurnedLock x = new TurnedLock();
        CHECK.bad("10", x.fault(-1), x.fault(4));
        CHECK.finding(x, "10 fault of nothing", () -> x.fault(0), NOTHING);
        int none = TurnedLock.NONE;
        fault("w14p1", none);
        fault("   w36   p1e2a3  b1o2   ", none);
        fault("w25l3", none);
        fault("", 0);
        fault("    ", 4);
        fault("w", 1);
        fault(" w", 2);
        fault("w1", 2);
        fault("w14", 3);
        fault("w14   ", 6);
        fault("W14p1", 0);
        fault("p1", 0);
        fault(" 14p1", 1);
        fault("w04p1", 1);
        fault("w44p1", 1);
        fault("w 14p1", 1);
        fault("w13p1", 2);
        fault("w17p1", 2);
        fault("w1 4p1", 2);
        fault("w144p1", 3);
        fault("w14 x1", 4);
        fault("w14 w14", 4);
        fault("w14 p", 5);
        fault("w14 p 1", 5);
        fault("w14 p0", 5);
        fault("w14 p4", 5);
        fault("w14 p11", 6);
        fault("w14 p1 q", 7);
        fault("w14p1p1p1p1p1", none);
        fault("w14p1p1p1p1p1  ", none);
        fault("w14p1p1p1p1p1p1", 13);
        fault("w14p1p1p1p1p1 x", 14);
        fault("w14p1p1p1p1p1p", 13);
        fault("w14\tp1", 3);
        fault("w14p\u00b1", 4);
        // put() cuts this sign to 119, a w, so that the end comes too early.
        fault("\u0177", 1);
    }

    private static void shed() {
        TurnedLock x = new TurnedLock();
        CHECK.bad("11", x.shed(-1), x.shed(4));
        CHECK.finding(x, "11 shed of nothing", () -> x.shed(2), NOTHING);
        Check.write(x, 2, " w25 e1 a2 l3");
        CHECK.due("11 shed", x.shed(2), 3);
        int[] counts = {3, 2, 5, 25, 25, 0, 2, 0, 1, 0};
        for (int what = 0; what < counts.length; what++) {
            CHECK.due("11 count(" + what + ")", x.count(what), counts[what]);
        }
        x.look(0, 3);
        for (int k = 0; k < 3; k++) {
            x.keep(k);
        }
        Check.write(x, 0, "w25 e4");
        CHECK.due("11 a fault", x.shed(0), TurnedLock.STATE);
        CHECK.due("11 refused: the persons stay", x.count(0), 3);
        CHECK.due("11 refused: deeds stay", x.count(5), 1);
        CHECK.due("11 refused: kept ones stay", x.count(9), 3);
        Check.write(x, 0, "w14 b2");
        CHECK.due("11 anew", x.shed(0), 1);
        int[] anew = {1, 1, 4, 4, 4, 0, 0, 0, 2, 0};
        for (int what = 0; what < anew.length; what++) {
            CHECK.due("11 anew count(" + what + ")", x.count(what), anew[what]);
        }
        for (int k = 0; k < 3; k++) {
            int place = k;
            CHECK.finding(x, "11 kept ones go", () -> x.on(place), NOTHING);
        }
    }

    private static void person() {
        TurnedLock x = Check.shedOf("w36 p3 e2 a3 b1 o3");
        int[][] facts = {{0, 3, 3}, {1, 2, 4}, {2, 3, 9}, {3, 1, 216}, {4, 3, 36}};
        for (int p = 0; p < facts.length; p++) {
            for (int what = 0; what < 3; what++) {
                CHECK.told(x, "12 person(" + p + ", " + what + ")", x.person(p, what), 1, facts[p][what]);
            }
        }
        x.look(1, 4);
        x.look(1, 4);
        x.look(3, 4);
        x.vain(0);
        CHECK.told(x, "12 looks at 1", x.person(1, 3), 1, 2);
        CHECK.told(x, "12 looks at 3", x.person(3, 3), 1, 1);
        CHECK.told(x, "12 looks at 0", x.person(0, 3), 1, 0);
        x.undo(1);
        CHECK.told(x, "12 undone looks are none", x.person(1, 3), 1, 1);
        CHECK.bad("12", x.person(-1, 0), x.person(5, 0), x.person(0, -1), x.person(0, 4));
        TurnedLock one = Check.shedOf("w14 l3 o3 a2");
        CHECK.told(one, "12 all of one wheel", one.person(0, 2), 1, 4);
        CHECK.told(one, "12 both of one wheel", one.person(1, 2), 1, 6);
        CHECK.told(one, "12 any of one wheel", one.person(2, 2), 1, 2);
        TurnedLock l = Check.shedOf("w34 l3");
        CHECK.told(l, "12 the kind of all", l.person(0, 0), 1, 5);
        CHECK.told(l, "12 all of three wheels", l.person(0, 2), 1, 64);
        CHECK.bad("12 without persons", new TurnedLock().person(0, 0));
    }

    private static void mark() {
        TurnedLock x = Check.shedOf("w36 p3 e3 a2 b1 o3");
        int u = -100;
        int[][] due = {{u, u, u, u, u}, {5, u, u, u, u}, {u, 4, u, u, u}, {u, u, 216, u, u}, {25, u, u, 2, u}};
        marks(x, due);
        x.vain(7);
        CHECK.due("13 a blind one once a code is out", x.mark(3, 3), 215);
        CHECK.bad("13", x.mark(0, 0), x.mark(0, 6), x.mark(0, -1), x.mark(5, 1), x.mark(-1, 1));
        marks(Check.shedOf("w24 l2 e1 o1"), new int[][] {{u, 3, u, u, 18}, {2, u, u, u, u}, {4, u, u, 2, u}});
        marks(Check.shedOf("w14 l3 a3 o2 e2"),
                new int[][] {{u, 1, u, u, 6}, {u, 0, u, u, u}, {3, u, u, 1, u}, {3, u, u, u, u}});
        marks(Check.shedOf("w35 l3"), new int[][] {{u, 16, u, u, 288}});
    }

    private static void marks(TurnedLock x, int[][] due) {
        for (int p = 0; p < due.length; p++) {
            for (int kind = 1; kind <= 5; kind++) {
                int who = p;
                int of = kind;
                String call = "13 mark(" + p + ", " + kind + ")";
                if (due[p][kind - 1] == -100) {
                    CHECK.finding(x, call, () -> x.mark(who, of), UNLIKE);
                } else {
                    CHECK.due(call, x.mark(p, kind), due[p][kind - 1]);
                }
            }
        }
    }

    private static void flicks() {
        TurnedLock x = Check.shedOf("w25 e1 p3");
        CHECK.due("14 flicks", x.flicks(0, 3), 1);
        CHECK.told(x, "14 they are", x.person(0, 1), 1, 3);
        CHECK.told(x, "14 ways by them", x.person(0, 2), 1, 6);
        CHECK.due("14 ways by them", x.ways(0, 0, 3), 2);
        CHECK.due("14 the mark by them", x.mark(0, 1), 4);
        CHECK.chance(x, "14 the worth by them", x.worth(0), 1, 3);
        CHECK.due("14 the same again", x.flicks(0, 3), 3);
        CHECK.bad("14", x.flicks(0, 0), x.flicks(0, 4), x.flicks(2, 1), x.flicks(-1, 1));
        x.vain(0);
        CHECK.due("14 with deeds", x.flicks(0, 1), TurnedLock.STATE);
        CHECK.bad("14 ahead of STATE", x.flicks(0, 4), x.flicks(2, 1));
        x.undo(0);
        CHECK.due("14 without deeds again", x.flicks(0, 1), 3);
    }
}
