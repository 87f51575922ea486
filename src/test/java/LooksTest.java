/** Promises 27 to 33: what a look is worth, told looks. */
final class LooksTest {
    private static final int NOTHING = 1, UNLIKE = 3, NOUGHT = 4, SIZE = 5;
    private static final Check CHECK = new Check();

    public static void main(String[] args) {
        worth();
        whose();
        seen();
        sights();
        fits();
        chance();
        read();
        refusedRows();
        CHECK.end();
    }

    private static void worth() {
        TurnedLock x = Check.shedOf("w16 e3 p1 b2 p3");
        CHECK.chance(x, "27 either", x.worth(0), 1, 3);
        CHECK.chance(x, "27 sure", x.worth(1), 1, 1);
        CHECK.chance(x, "27 blind", x.worth(2), 1, 6);
        CHECK.chance(x, "27 three", x.worth(3), 1, 3);
        x.look(0, 1);
        CHECK.chance(x, "27 blind, by the likeliest", x.worth(2), 1, 3);
        // Weights 1 0 1 1 2 1; the likeliest code behind each sight 0 .. 5: 2 1 1 2 1 2, of 6 by 3.
        CHECK.chance(x, "27 three, weighed", x.worth(3), 1, 2);
        CHECK.bad("27", x.worth(-1), x.worth(4), new TurnedLock().worth(0));
    }

    private static void whose() {
        CHECK.due("28 no persons", new TurnedLock().whose(), TurnedLock.STATE);
        TurnedLock x = Check.shedOf("w24 b1 p1 e3 p1 b3");
        CHECK.told(x, "28 the first of most, of least", x.whose(), 1, 0);
        x = Check.shedOf("w16 p3 e3 a3");
        CHECK.told(x, "28 all alike", x.whose(), 0, 0);
        x = Check.shedOf("w36 e1 p1 l3");
        CHECK.told(x, "28 most, least", x.whose(), 1, 2);
    }

    private static void seen() {
        TurnedLock x = Check.shedOf("w14 e2 p2");
        CHECK.chance(x, "29 at first", x.seen(0, 3), 1, 4);
        x.look(1, 2);
        // The code is 0 or 1.
        long[][] due = {{1, 8}, {1, 8}, {3, 8}, {3, 8}};
        for (int s = 0; s < due.length; s++) {
            CHECK.chance(x, "29 seen(0, " + s + ")", x.seen(0, s), due[s][0], due[s][1]);
        }
        CHECK.chance(x, "29 it can't be", x.seen(1, 0), 0, 1);
        CHECK.bad("29", x.seen(2, 0), x.seen(-1, 0), x.seen(0, 4), x.seen(0, -1));
        CHECK.due("29 aside", x.count(5), 1);
    }

    private static void sights() {
        TurnedLock x = Check.shedOf("w14 e2 p2 e1");
        CHECK.told(x, "30 at first", x.sights(2), 4, 0);
        x.look(1, 2);
        CHECK.told(x, "30 either", x.sights(0), 4, 2);
        CHECK.told(x, "30 up", x.sights(1), 3, 2);
        x.vain(0);
        CHECK.told(x, "30 either", x.sights(2), 2, 0);
        CHECK.bad("30", x.sights(3), x.sights(-1), new TurnedLock().sights(0));
    }

    private static void fits() {
        TurnedLock x = Check.shedOf("w26 e3 p2 o1");
        x.row(0, 0);
        CHECK.told(x, "31 no looks", x.fits(0), 36, 0);
        Check.lay(x, 0, 1, 14);
        CHECK.told(x, "31 one look", x.fits(0), 2, 12);
        Check.lay(x, 0, 1, 14, 0, 13);
        CHECK.told(x, "31 two looks", x.fits(0), 1, 12);
        Check.lay(x, 0, 1, 14, 1, 20);
        CHECK.told(x, "31 none", x.fits(0), 0, TurnedLock.NONE);
        x.vain(12);
        Check.lay(x, 0, 1, 14);
        CHECK.told(x, "31 aside of deeds", x.fits(0), 2, 12);
        Check.lay(x, 0, 0, 7, 0, 7, 0, 7, 0, 7, 0, 7, 0, 7);
        CHECK.told(x, "31 six looks", x.fits(0), 5, 6);
        CHECK.due("31 no deed more", x.count(5), 1);
        TurnedLock one = Check.shedOf("w14 p1");
        Check.lay(one, 0, 0, 0);
        CHECK.told(one, "31 the last code alone", one.fits(0), 1, 3);
    }

    private static void chance() {
        TurnedLock x = Check.shedOf("w36 e3 p2 b1");
        x.vain(3);
        x.row(0, 0);
        CHECK.chance(x, "32 no looks", x.chance(0), 1, 1);
        Check.lay(x, 0, 1, 14);
        CHECK.chance(x, "32 one look", x.chance(0), 1, 216);
        Check.lay(x, 0, 0, 0, 0, 0);
        CHECK.chance(x, "32 ways count", x.chance(0), 1, 972);
        Check.lay(x, 0, 1, 14, 1, 20);
        CHECK.chance(x, "32 none", x.chance(0), 0, 1);
        Check.lay(x, 0, 2, 1, 2, 2, 2, 3, 2, 4, 2, 5, 2, 6);
        CHECK.chance(x, "32 six blind ones", x.chance(0), 1, 101559956668416L);
        Check.lay(x, 0, 2, 1, 2, 2, 2, 3, 2, 4, 2, 5, 1, 6);
        CHECK.chance(x, "32 five blind ones and one more", x.chance(0), 1, 101559956668416L);
    }

    private static void read() {
        TurnedLock x = Check.shedOf("w16 e3 p2");
        x.vain(0);
        x.row(0, 0);
        CHECK.due("33 no looks: the first", x.read(0), 0);
        Check.lay(x, 0, 0, 1);
        CHECK.due("33 the likeliest", x.read(0), 4);
        Check.lay(x, 0, 1, 1);
        CHECK.due("33 the first of alike ones", x.read(0), 0);
        Check.lay(x, 0, 1, 1, 1, 4);
        CHECK.finding(x, "33 none can be", () -> x.read(0), NOUGHT);
    }

    private static void refusedRows() {
        TurnedLock x = new TurnedLock();
        CHECK.bad("31 to 33", x.fits(-1), x.fits(6), x.chance(-1), x.chance(6), x.read(-1), x.read(6));
        CHECK.due("31 no persons", x.fits(0), TurnedLock.STATE);
        CHECK.due("32 no persons", x.chance(0), TurnedLock.STATE);
        CHECK.due("33 no persons", x.read(0), TurnedLock.STATE);
        Check.write(x, 0, "w14 p1 p2");
        x.shed(0);
        refused(x, NOTHING);
        x.row(0, 13);
        refused(x, SIZE);
        x.row(0, 14);
        refused(x, SIZE);
        x.row(0, 40);
        refused(x, SIZE);
        Check.lay(x, 0, 7);
        refused(x, SIZE);
        int[][] unlike = {{2, 0}, {-1, 0}, {0, 4}, {0, -1}, {0, 0, 0, 0, 5, 0}, {0, 0, 0, 0, 0, 4}};
        for (int[] pairs : unlike) {
            Check.lay(x, 0, pairs);
            refused(x, UNLIKE);
        }
    }

    private static void refused(TurnedLock x, int which) {
        CHECK.finding(x, "31 fits", () -> x.fits(0), which);
        CHECK.finding(x, "32 chance", () -> x.chance(0), which);
        CHECK.finding(x, "33 read", () -> x.read(0), which);
    }
}
