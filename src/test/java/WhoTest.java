/** Promises 34 to 38: who shut it, codes that are near, lots. */
final class WhoTest {
    private static final Check CHECK = new Check();

    public static void main(String[] args) {
        who();
        ways();
        apart();
        near();
        lots();
        CHECK.end();
    }

    private static void who() {
        TurnedLock x = Check.shedOf("w26 p3 e3 a1 o1 p3");
        CHECK.told(x, "34 the last wheel up", x.who(0, 1), 1 + 2 + 4 + 16, 2);
        CHECK.told(x, "34 two ways of six, one of three", x.who(0, 3), 1 + 2 + 16, 0);
        CHECK.told(x, "34 down", x.who(0, 5), 2, 1);
        CHECK.told(x, "34 both", x.who(0, 7), 8, 3);
        CHECK.told(x, "34 the first wheel", x.who(0, 6), 4, 2);
        CHECK.told(x, "34 nobody", x.who(0, 0), 0, TurnedLock.NONE);
        CHECK.bad("34", x.who(-1, 0), x.who(36, 0), x.who(0, -1), x.who(0, 36), new TurnedLock().who(0, 0));
        TurnedLock y = Check.shedOf("w14 e3 p3 b1");
        CHECK.told(y, "34 two of six is one of three", y.who(0, 1), 7, 0);
    }

    private static void ways() {
        TurnedLock x = Check.shedOf("w24 e2 a3 l1 b3 o2");
        int[][] due = {{0, 1, 2, 1}, {0, 1, 1, 1}, {1, 1, 0, 0}, {1, 1, 1, 1}, {0, 0, 0, 0}};
        for (int p = 0; p < due.length; p++) {
            for (int up = 0; up < 4; up++) {
                String call = "35 ways(" + p + ", 6, up " + up + ")";
                CHECK.due(call, x.ways(p, 6, 4 + (2 + up) % 4), due[p][up]);
            }
        }
        CHECK.due("35 both, twice two", x.ways(4, 0, 10), 4);
        CHECK.due("35 both, two", x.ways(4, 0, 9), 2);
        CHECK.due("35 both, down", x.ways(4, 0, 15), 1);
        CHECK.due("35 any, the first wheel", x.ways(1, 13, 9), 1);
        CHECK.due("35 all, both", x.ways(2, 15, 0), 1);
        CHECK.due("35 blind, anywhere", x.ways(3, 15, 2), 1);
        CHECK.bad("35", x.ways(5, 0, 0), x.ways(-1, 0, 0), x.ways(0, 16, 0), x.ways(0, -1, 0),
                x.ways(0, 0, 16), x.ways(0, 0, -1), new TurnedLock().ways(0, 0, 0));
        TurnedLock three = Check.shedOf("w34 o1 e1");
        CHECK.due("35 both leaves the first wheel", three.ways(0, 0, 5), 1);
        CHECK.due("35 both leaves the first wheel", three.ways(0, 0, 21), 0);
        CHECK.due("35 either leaves both", three.ways(1, 0, 5), 0);
    }

    private static void apart() {
        TurnedLock x = Check.shedOf("w36 p1");
        CHECK.told(x, "36 the same", x.apart(9, 9), 0, 0);
        CHECK.told(x, "36 up", x.apart(0, 2), 2, 1);
        CHECK.told(x, "36 down", x.apart(0, 5), 1, 1);
        CHECK.told(x, "36 half", x.apart(0, 3), 3, 1);
        CHECK.told(x, "36 the farthest", x.apart(0, 3 * 43), 9, 3);
        CHECK.told(x, "36 two wheels", x.apart(5 * 36, 4 * 6), 3, 2);
        CHECK.bad("36", x.apart(-1, 0), x.apart(216, 0), x.apart(0, -1), x.apart(0, 216),
                new TurnedLock().apart(0, 0));
        CHECK.due("36 refused leaves asked()", x.asked(), 2);
    }

    private static void near() {
        TurnedLock x = Check.shedOf("w36 p1");
        int[] due = {1, 7, 25, 60};
        for (int n = 0; n < due.length; n++) {
            CHECK.due("37 near(100, " + n + ")", x.near(100, n), due[n]);
        }
        CHECK.due("37 all but one", x.near(0, 8), 215);
        CHECK.due("37 all", x.near(0, 9), 216);
        CHECK.bad("37", x.near(0, -1), x.near(0, 10), x.near(-1, 0), x.near(216, 0), new TurnedLock().near(0, 0));
        CHECK.due("37 one wheel", Check.shedOf("w15 p1").near(4, 1), 3);
    }

    private static void lots() {
        TurnedLock x = Check.shedOf("w36 p2 e3 a1 o2 l1");
        CHECK.bad("38", x.lots(0, 1), x.lots(9, 1), x.lots(1, 0), x.lots(1, -1),
                x.lots(1, Integer.MAX_VALUE), x.lots(1, Integer.MIN_VALUE));
        CHECK.due("38 no persons", new TurnedLock().lots(1, 1), TurnedLock.STATE);
        CHECK.bad("38 ahead of STATE", new TurnedLock().lots(0, 1));
        x.vain(3);
        x.keep(1);
        CHECK.due("38 a code", x.lots(5, 77), 155);
        CHECK.due("38 deeds anew", x.count(5), 5);
        CHECK.due("38 kept ones stay", x.count(9), 1);
        byHand();
        for (int seed = 1; seed < 2147483646 - 90000000; seed += 90000000) {
            int code = x.lots(8, seed);
            CHECK.due("38 eight looks", x.count(5), 8);
            x.likely(code);
            CHECK.due("38 looks are true", x.upper() > 0 ? 1 : 0, 1);
        }
        CHECK.due("38 the last seed", x.lots(1, 2147483646) >= 0 ? 1 : 0, 1);
    }

    /** Seed 1: 48271, 182605794, 1291394886, 1914720637, 2078669041, 407355683, 1105902161: well known. */
    private static void byHand() {
        TurnedLock x = Check.shedOf("w16 p3 e3 b1");
        CHECK.due("38 the code", x.lots(3, 1), 48271 % 6);
        // The code is 1. What the ways of each bring, lesser ones ahead:
        int[][] sights = {{2, 3, 4}, {0, 2, 3, 4, 4, 5}, {0, 1, 2, 3, 4, 5}};
        int[] lots = {182605794, 1291394886, 1914720637, 2078669041, 407355683, 1105902161};
        TurnedLock y = Check.shedOf("w16 p3 e3 b1");
        for (int i = 0; i < lots.length; i += 2) {
            int p = lots[i] / 16 % 3;
            y.look(p, sights[p][lots[i + 1] / 32 % sights[p].length]);
        }
        CHECK.due("38 the looks", x.digest(), y.digest());
    }
}
