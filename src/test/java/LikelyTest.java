/** Promises 20 to 26: how likely, trying. */
final class LikelyTest {
    private static final Check CHECK = new Check();

    public static void main(String[] args) {
        likely();
        best();
        wheel();
        certain();
        order();
        triesAndWithin();
        withoutPersons();
        CHECK.end();
    }

    private static void likely() {
        TurnedLock x = Check.shedOf("w26 o3");
        CHECK.chance(x, "20 at first", x.likely(35), 1, 36);
        x.vain(0);
        CHECK.chance(x, "20 a try less", x.likely(35), 1, 35);
        CHECK.chance(x, "20 it is not", x.likely(0), 0, 1);
        x.look(0, 0);
        // From a code that is 3 and 3 away: 4 ways; 3 and another: 2; of all 36, none from wheels that stay.
        CHECK.chance(x, "20 four ways", x.likely(21), 1, 9);
        CHECK.chance(x, "20 two ways", x.likely(20), 1, 18);
        CHECK.chance(x, "20 one way", x.likely(7), 1, 36);
        CHECK.chance(x, "20 no way", x.likely(6), 0, 1);
        CHECK.bad("20", x.likely(-1), x.likely(36));
        CHECK.due("20 refused leaves lower()", x.lower(), 1);
    }

    private static void best() {
        TurnedLock x = Check.shedOf("w16 e3 p1");
        CHECK.told(x, "21 all alike", x.best(), 0, 6);
        x.vain(0);
        CHECK.told(x, "21 the first that can be", x.best(), 1, 5);
        x.look(0, 1);
        CHECK.told(x, "21 the likeliest", x.best(), 4, 1);
        x.vain(4);
        CHECK.told(x, "21 the first of alike ones", x.best(), 2, 3);
    }

    private static void wheel() {
        TurnedLock x = Check.shedOf("w35 a1 l1");
        CHECK.chance(x, "22 at first", x.wheel(1, 4), 1, 5);
        x.look(0, 0);
        CHECK.chance(x, "22 one of three", x.wheel(0, 4), 1, 3);
        CHECK.chance(x, "22 two of three", x.wheel(2, 0), 2, 3);
        CHECK.chance(x, "22 it can't be", x.wheel(2, 1), 0, 1);
        CHECK.bad("22", x.wheel(-1, 0), x.wheel(3, 0), x.wheel(0, -1), x.wheel(0, 5));
    }

    private static void certain() {
        TurnedLock x = Check.shedOf("w36 p3 p1 a1");
        CHECK.told(x, "23 none", x.certain(), 0, 999);
        x.look(0, 5 * 36 + 2 * 6);
        CHECK.told(x, "23 the first two", x.certain(), 3, 529);
        x.look(1, 5 * 36 + 2 * 6);
        CHECK.told(x, "23 all", x.certain(), 7, 525);
        x.undo(0);
        x.look(2, 0);
        x.vain(5);
        CHECK.told(x, "23 the last alone", x.certain(), 4, 990);
        TurnedLock two = Check.shedOf("w24 p1");
        two.look(0, 1);
        CHECK.told(two, "23 noughts ahead", two.certain(), 3, 0);
    }

    private static void order() {
        TurnedLock x = Check.shedOf("w16 e3 p1");
        x.look(0, 1);
        x.row(2, 40);
        CHECK.due("24 all that can be", x.order(40, 2), 5);
        int[] due = {4, 0, 2, 3, 5};
        for (int i = 0; i < due.length; i++) {
            CHECK.told(x, "24 place " + i, x.at(2, i), 1, due[i]);
        }
        CHECK.due("24 no more places", x.at(2, 5), TurnedLock.FINDING);
        CHECK.due("24 the first two", x.order(2, 0), 2);
        CHECK.due("24 a row anew", x.count(7), 2);
        CHECK.told(x, "24 the second", x.at(0, 1), 1, 0);
        CHECK.due("24 not the third", x.at(0, 2), TurnedLock.FINDING);
        CHECK.bad("24", x.order(0, 0), x.order(41, 0), x.order(1, -1), x.order(1, 6), x.order(-1, 0));
        TurnedLock many = Check.shedOf("w36 b1");
        CHECK.due("24 no more than 40", many.order(40, 5), 40);
        CHECK.told(many, "24 the last of them", many.at(5, 39), 1, 39);
    }

    private static void triesAndWithin() {
        TurnedLock x = Check.shedOf("w16 e3 b1");
        CHECK.chance(x, "25 at first", x.tries(), 7, 2);
        x.look(0, 1);
        // Weights 2, 1, 1, 1, 1 of 6, as 3 up and 3 down are two ways.
        CHECK.chance(x, "25 the mean", x.tries(), 8, 3);
        long[][] within = {{0, 1}, {1, 3}, {1, 2}, {2, 3}, {5, 6}, {1, 1}, {1, 1}};
        for (int n = 0; n < within.length; n++) {
            CHECK.chance(x, "26 within(" + n + ")", x.within(n), within[n][0], within[n][1]);
        }
        CHECK.chance(x, "26 within(216)", x.within(216), 1, 1);
        CHECK.bad("26", x.within(-1), x.within(217));
    }

    private static void withoutPersons() {
        TurnedLock x = new TurnedLock();
        CHECK.bad("20, 22, 26 without persons", x.likely(0), x.wheel(0, 0), x.within(-1), x.within(217),
                x.order(0, 0));
        int state = TurnedLock.STATE;
        CHECK.due("21", x.best(), state);
        CHECK.due("23", x.certain(), state);
        CHECK.due("24", x.order(1, 0), state);
        CHECK.due("25", x.tries(), state);
        CHECK.due("26", x.within(0), state);
    }
}
