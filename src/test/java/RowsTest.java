/** Promises 1 to 7: a new object, rows. */
final class RowsTest {
    private static final int NOTHING = 1, BEYOND = 2, NOUGHT = 4, SIZE = 5;
    private static final Check CHECK = new Check();

    public static void main(String[] args) {
        newObject();
        row();
        layAndAt();
        tear();
        copy();
        mean();
        CHECK.end();
    }

    private static void newObject() {
        TurnedLock x = new TurnedLock();
        for (int what = 0; what <= 9; what++) {
            CHECK.due("1 new count(" + what + ")", x.count(what), 0);
        }
        CHECK.due("1 asked()", x.asked(), 0);
        CHECK.due("1 upper()", x.upper(), 0);
        CHECK.due("1 lower()", x.lower(), 1);
        CHECK.due("1 finding()", x.finding(), 0);
        for (int f = 1; f <= 5; f++) {
            CHECK.due("1 findings(" + f + ")", x.findings(f), 0);
        }
        for (int r = 0; r <= 5; r++) {
            int at = r;
            CHECK.finding(x, "1 at", () -> x.at(at, 0), NOTHING);
        }
        for (int t = 0; t <= 3; t++) {
            int at = t;
            CHECK.finding(x, "1 fault", () -> x.fault(at), NOTHING);
        }
    }

    private static void row() {
        TurnedLock x = new TurnedLock();
        CHECK.due("2 row(0, 0)", x.row(0, 0), 0);
        CHECK.due("2 row(5, 40)", x.row(5, 40), 40);
        CHECK.due("2 two rows", x.count(7), 2);
        CHECK.told(x, "2 at(5, 39)", x.at(5, 39), 1, 0);
        x.lay(5, 39, 8);
        x.row(5, 40);
        CHECK.told(x, "2 zeros again", x.at(5, 39), 1, 0);
        x.lay(5, 0, 8);
        x.row(5, 40);
        CHECK.told(x, "2 the first, too", x.at(5, 0), 1, 0);
        CHECK.bad("2", x.row(-1, 1), x.row(6, 1), x.row(0, 41), x.row(Integer.MAX_VALUE, 1),
                x.row(0, Integer.MAX_VALUE), x.row(-1, -1), x.row(6, Integer.MIN_VALUE));
        CHECK.due("2 no finding by BAD", x.finding(), 0);
        CHECK.finding(x, "2 row(5, -1)", () -> x.row(5, -1), SIZE);
        CHECK.finding(x, "2 row(5, MIN)", () -> x.row(5, Integer.MIN_VALUE), SIZE);
        CHECK.due("2 refused leaves it", x.at(5, 39), 1);
    }

    private static void layAndAt() {
        TurnedLock x = new TurnedLock();
        CHECK.bad("3, 4", x.lay(6, 0, 1), x.lay(-1, 0, 1), x.at(6, 0), x.at(-1, 0));
        CHECK.finding(x, "3 lay missing", () -> x.lay(0, 7, 1), NOTHING);
        CHECK.finding(x, "4 at missing", () -> x.at(0, -7), NOTHING);
        x.row(0, 3);
        CHECK.told(x, "3 lay", x.lay(0, 2, Integer.MIN_VALUE), 1, 0);
        CHECK.told(x, "3 lay tells what was", x.lay(0, 2, 77), 1, Integer.MIN_VALUE);
        CHECK.told(x, "4 at", x.at(0, 2), 1, 77);
        CHECK.told(x, "4 at beside", x.at(0, 1), 1, 0);
        x.at(0, 2);
        for (int i : new int[] {-1, 3, 40, Integer.MAX_VALUE, Integer.MIN_VALUE}) {
            CHECK.finding(x, "3 lay beyond " + i, () -> x.lay(0, i, 1), BEYOND);
            CHECK.finding(x, "4 at beyond " + i, () -> x.at(0, i), BEYOND);
        }
        CHECK.due("39 refused leaves asked()", x.asked(), 77);
        x.row(0, 0);
        CHECK.finding(x, "4 at of an empty row", () -> x.at(0, 0), BEYOND);
    }

    private static void tear() {
        TurnedLock x = new TurnedLock();
        CHECK.bad("5", x.tear(-1), x.tear(6));
        CHECK.finding(x, "5 tear missing", () -> x.tear(2), NOTHING);
        x.row(2, 0);
        CHECK.due("5 tear", x.tear(2), 1);
        CHECK.due("5 gone", x.count(7), 0);
        CHECK.finding(x, "5 tear again", () -> x.tear(2), NOTHING);
    }

    private static void copy() {
        TurnedLock x = new TurnedLock();
        Check.lay(x, 0, 1, 2, 3, 4, 5);
        Check.lay(x, 1, 9, 9, 9);
        CHECK.due("6 copy", x.copy(0, 1, 1, 0, 3), 1);
        CHECK.told(x, "6 first", x.at(1, 0), 1, 2);
        CHECK.told(x, "6 last", x.at(1, 2), 1, 4);
        CHECK.due("6 onto itself, up", x.copy(0, 0, 0, 1, 4), 1);
        int[] up = {1, 1, 2, 3, 4};
        for (int i = 0; i < up.length; i++) {
            CHECK.told(x, "6 up " + i, x.at(0, i), 1, up[i]);
        }
        CHECK.due("6 onto itself, down", x.copy(0, 2, 0, 1, 3), 1);
        int[] down = {1, 2, 3, 4, 4};
        for (int i = 0; i < down.length; i++) {
            CHECK.told(x, "6 down " + i, x.at(0, i), 1, down[i]);
        }
        CHECK.due("6 none at the end", x.copy(0, 5, 1, 3, 0), 1);
        CHECK.bad("6", x.copy(6, 0, 0, 0, 1), x.copy(-1, 0, 0, 0, 1), x.copy(0, 0, 6, 0, 1),
                x.copy(0, 0, -1, 0, -1));
        CHECK.finding(x, "6 size ahead of nothing", () -> x.copy(4, 0, 5, 0, -1), SIZE);
        CHECK.finding(x, "6 from nothing", () -> x.copy(4, 9, 0, 0, 1), NOTHING);
        CHECK.finding(x, "6 into nothing", () -> x.copy(0, 0, 4, 9, 1), NOTHING);
        int max = Integer.MAX_VALUE;
        int[][] beyond = {{-1, 0, 1}, {0, -1, 1}, {5, 0, 1}, {0, 3, 1}, {0, 0, 4}, {3, 0, 3},
            {max, 0, max}, {0, max, max}, {0, 0, max}, {6, 0, 0}, {0, 4, 0}, {Integer.MIN_VALUE, 0, 0}};
        for (int[] b : beyond) {
            CHECK.finding(x, "6 beyond", () -> x.copy(0, b[0], 1, b[1], b[2]), BEYOND);
        }
    }

    private static void mean() {
        TurnedLock x = new TurnedLock();
        CHECK.bad("7", x.mean(-1), x.mean(6));
        CHECK.finding(x, "7 mean of nothing", () -> x.mean(0), NOTHING);
        x.row(0, 0);
        CHECK.finding(x, "7 mean of none", () -> x.mean(0), NOUGHT);
        Check.lay(x, 0, 5, 2);
        CHECK.told(x, "7 cut", x.mean(0), 1, 3);
        Check.lay(x, 0, -5, -2);
        CHECK.told(x, "7 cut below 0", x.mean(0), 1, -3);
        int max = Integer.MAX_VALUE;
        Check.lay(x, 0, max, max, max);
        CHECK.told(x, "7 wide sum", x.mean(0), 1, max);
        Check.lay(x, 0, Integer.MIN_VALUE, Integer.MIN_VALUE);
        CHECK.told(x, "7 wide sum below 0", x.mean(0), 1, Integer.MIN_VALUE);
    }
}
