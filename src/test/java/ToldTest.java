/** Promises 39 to 45: what is told. */
final class ToldTest {
    private static final Check CHECK = new Check();

    public static void main(String[] args) {
        asked();
        upperAndLower();
        count();
        finding();
        digest();
        CHECK.end();
    }

    private static void asked() {
        TurnedLock x = Check.shedOf("w25 p1 e2");
        CHECK.due("39 before", new TurnedLock().asked(), 0);
        Check.lay(x, 0, 4, 6);
        CHECK.told(x, "39 at", x.at(0, 1), 1, 6);
        CHECK.told(x, "39 mean", x.mean(0), 1, 5);
        CHECK.told(x, "39 person", x.person(1, 2), 1, 4);
        CHECK.told(x, "39 best", x.best(), 0, 25);
        CHECK.told(x, "39 certain", x.certain(), 0, 99);
        CHECK.told(x, "39 whose", x.whose(), 0, 1);
        CHECK.told(x, "39 sights", x.sights(0), 25, 0);
        CHECK.told(x, "39 apart", x.apart(0, 24), 2, 2);
        CHECK.told(x, "39 who", x.who(0, 4), 2, 1);
        Check.lay(x, 0, 0, 6);
        CHECK.told(x, "39 fits", x.fits(0), 1, 5);
        // None of these tells anything by asked().
        x.row(1, 1);
        x.copy(0, 0, 1, 0, 1);
        x.text(0, 3);
        x.put(0, 0, 1);
        x.look(1, 3);
        x.vain(9);
        x.likely(1);
        x.wheel(0, 0);
        x.order(9, 1);
        x.tries();
        x.within(2);
        x.worth(0);
        x.seen(0, 0);
        x.chance(0);
        x.read(0);
        x.ways(0, 0, 0);
        x.near(0, 2);
        x.mark(1, 1);
        x.digest();
        x.undo(0);
        x.flicks(0, 2);
        x.keep(0);
        x.on(0);
        x.lots(2, 5);
        x.tear(1);
        CHECK.due("39 still", x.asked(), 5);
        refusedLeaveAsked(x);
    }

    private static void refusedLeaveAsked(TurnedLock x) {
        x.at(9, 0);
        x.lay(0, 9, 0);
        x.mean(5);
        x.person(0, 4);
        x.sights(7);
        x.fits(5);
        x.who(0, 99);
        x.apart(99, 0);
        CHECK.due("39 refused ones tell nothing", x.asked(), 5);
    }

    private static void upperAndLower() {
        TurnedLock x = new TurnedLock();
        CHECK.due("40 before", x.upper(), 0);
        CHECK.due("41 before", x.lower(), 1);
        x = Check.shedOf("w16 p2 e3");
        CHECK.chance(x, "40, 41 likely", x.likely(0), 1, 6);
        CHECK.chance(x, "40, 41 tries", x.tries(), 7, 2);
        CHECK.chance(x, "40, 41 wheel", x.wheel(0, 5), 1, 6);
        CHECK.chance(x, "40, 41 within", x.within(4), 2, 3);
        CHECK.chance(x, "40, 41 worth", x.worth(0), 1, 2);
        x.look(0, 3);
        CHECK.chance(x, "40, 41 seen", x.seen(0, 2), 1, 4);
        Check.lay(x, 1, 0, 3, 0, 3);
        CHECK.chance(x, "40, 41 chance", x.chance(1), 1, 12);
        x.best();
        x.likely(6);
        x.wheel(1, 0);
        x.within(217);
        x.worth(2);
        x.seen(0, 6);
        x.chance(0);
        CHECK.due("40 refused ones tell nothing", x.upper(), 1);
        CHECK.due("41 refused ones tell nothing", x.lower(), 12);
    }

    private static void count() {
        TurnedLock x = Check.shedOf("w35 a1 l2 e1 b1");
        x.row(0, 1);
        x.row(3, 0);
        x.look(0, 0);
        x.keep(0);
        x.keep(2);
        x.vain(4);
        int[] due = {4, 3, 5, 125, 2, 2, 2, 2, 1, 2};
        for (int what = 0; what < due.length; what++) {
            CHECK.due("42 count(" + what + ")", x.count(what), due[what]);
        }
        CHECK.bad("42", x.count(-1), x.count(10), x.count(Integer.MAX_VALUE), x.count(Integer.MIN_VALUE));
    }

    private static void finding() {
        TurnedLock x = new TurnedLock();
        CHECK.due("43 before", x.finding(), 0);
        x.tear(0);
        x.row(0, 0);
        x.at(0, 0);
        x.at(0, 1);
        CHECK.due("43 the latest", x.finding(), 2);
        x.tear(9);
        CHECK.due("43 BAD is none", x.finding(), 2);
        x.mean(0);
        x.row(0, -1);
        Check.write(x, 0, "w14 p1");
        x.shed(0);
        x.mark(0, 1);
        CHECK.due("43 the latest", x.finding(), 3);
        int[] due = {1, 2, 1, 1, 1};
        for (int f = 1; f <= 5; f++) {
            CHECK.due("44 findings(" + f + ")", x.findings(f), due[f - 1]);
        }
        CHECK.bad("44", x.findings(0), x.findings(6), x.findings(-1), x.findings(Integer.MAX_VALUE));
    }

    private static long digestOf(long... numbers) {
        long h = 17;
        for (long v : numbers) {
            h = 31 * h + v;
        }
        return h;
    }

    private static void digest() {
        TurnedLock x = new TurnedLock();
        CHECK.due("45 a new object", x.digest(), digestOf(0, 0, 0, 0, 0, 0, 0, 0, 0, 0, -1, -1, -1,
                -1, -1, -1, -1, -1, -1, -1, -1, -1, -1));
        Check.write(x, 1, "w14 e2");
        x.shed(1);
        x.look(0, 2);
        x.look(0, 2);
        x.keep(1);
        x.vain(1);
        Check.lay(x, 2, -7, 9);
        x.row(5, 0);
        x.text(3, 1);
        x.put(3, 0, 200);
        CHECK.due("45 all of it", x.digest(), digestOf(1, 1, 4, 4, 2, 3, 0, 2, 2, 1,
                4, 0, 0, 1, 1, 2, 4, 2, -1, 2, -1,
                -1, -1, 2, -7, 9, -1, -1, 0,
                -1, 6, 'w', '1', '4', ' ', 'e', '2', -1, 1, -56));
        x.person(0, 3);
        x.mark(0, 2);
        CHECK.due("45 what is told is not of it", x.asked(), 2);
    }
}
