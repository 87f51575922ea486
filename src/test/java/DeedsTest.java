/** Promises 15 to 19: looks, tries in vain, undone, kept, gone on from. */
final class DeedsTest {
    private static final int NOTHING = 1, NOUGHT = 4;
    private static final Check CHECK = new Check();

    public static void main(String[] args) {
        look();
        vain();
        full();
        undo();
        keepAndOn();
        CHECK.end();
    }

    private static void look() {
        TurnedLock x = Check.shedOf("w24 e2 p1 b1");
        CHECK.due("15 either", x.look(0, 6), 3);
        CHECK.chance(x, "15 two ways count twice", x.likely(4), 1, 2);
        CHECK.chance(x, "15 one way", x.likely(5), 1, 4);
        CHECK.chance(x, "15 the other way", x.likely(7), 1, 4);
        CHECK.chance(x, "15 no way", x.likely(6), 0, 1);
        CHECK.due("15 a blind one tells nothing", x.look(2, 15), 3);
        CHECK.due("15 three looks weigh", x.look(0, 6), 3);
        CHECK.chance(x, "15 two ways, twice, in lowest terms", x.likely(4), 2, 3);
        long before = x.digest();
        CHECK.finding(x, "15 it can't be", () -> x.look(1, 1), NOUGHT);
        CHECK.due("15 refused changes nothing", x.digest(), before);
        CHECK.due("15 the first notch comes behind the last", x.look(1, 4), 1);
        CHECK.told(x, "15 it is 7", x.best(), 7, 1);
        CHECK.bad("15", x.look(-1, 0), x.look(3, 0), x.look(0, -1), x.look(0, 16));
        CHECK.bad("15 without persons", new TurnedLock().look(0, 0));
    }

    private static void vain() {
        TurnedLock x = Check.shedOf("w14 p3");
        CHECK.due("16 vain", x.vain(2), 3);
        CHECK.due("16 again", x.vain(2), 3);
        CHECK.due("16 both are deeds", x.count(5), 2);
        CHECK.due("16 another", x.vain(0), 2);
        CHECK.due("16 another", x.vain(3), 1);
        CHECK.finding(x, "16 the last", () -> x.vain(1), NOUGHT);
        CHECK.due("16 refused changes nothing", x.count(4), 1);
        CHECK.due("16 no deed", x.count(5), 4);
        CHECK.told(x, "16 a try is no look", x.person(0, 3), 1, 0);
        CHECK.bad("16", x.vain(-1), x.vain(4), new TurnedLock().vain(0));
    }

    private static void full() {
        TurnedLock x = Check.shedOf("w14 b1 p1");
        for (int i = 0; i < 14; i++) {
            CHECK.due("15 look " + i, x.look(0, 0), 4);
        }
        CHECK.due("16 vain", x.vain(0), 3);
        CHECK.due("15 the sixteenth", x.look(1, 2), 1);
        CHECK.due("15 full", x.look(0, 0), TurnedLock.FULL);
        CHECK.due("16 full", x.vain(0), TurnedLock.FULL);
        CHECK.finding(x, "15 FULL is last", () -> x.look(1, 0), NOUGHT);
        CHECK.finding(x, "16 FULL is last", () -> x.vain(1), NOUGHT);
        CHECK.bad("15, 16 ahead", x.look(2, 0), x.vain(4));
        CHECK.due("15 sixteen deeds", x.count(5), 16);
        x.undo(15);
        CHECK.due("15 room again", x.look(1, 3), 1);
        heavy();
    }

    /** The greatest WEIGHTS that there are: 4 WAYS, 16 times. */
    private static void heavy() {
        TurnedLock x = Check.shedOf("w24 o2");
        for (int i = 0; i < 16; i++) {
            x.look(0, 10);
        }
        // 4 to the 16th, four times 2 to the 16th, four times 1: all by 4.
        CHECK.chance(x, "15 wide weights", x.likely(0), 1L << 30, (1L << 30) + (1L << 16) + 1);
    }

    private static void undo() {
        TurnedLock x = Check.shedOf("w16 e1 e2");
        CHECK.due("17 none to undo", x.undo(0), 0);
        CHECK.bad("17", x.undo(1), x.undo(-1));
        long fresh = x.digest();
        x.look(0, 3);
        long one = x.digest();
        x.look(1, 4);
        x.vain(0);
        CHECK.bad("17", x.undo(4), x.undo(-1), x.undo(Integer.MAX_VALUE), x.undo(Integer.MIN_VALUE));
        CHECK.due("17 from behind the last", x.undo(3), 0);
        CHECK.due("17 two", x.undo(1), 2);
        CHECK.due("17 as behind the first", x.digest(), one);
        CHECK.due("17 all", x.undo(0), 1);
        CHECK.due("17 as at first", x.digest(), fresh);
        CHECK.due("17 without persons", new TurnedLock().undo(0), 0);
    }

    private static void keepAndOn() {
        TurnedLock x = new TurnedLock();
        CHECK.bad("18, 19", x.keep(-1), x.keep(3), x.on(-1), x.on(3));
        CHECK.due("18 no persons", x.keep(0), TurnedLock.STATE);
        CHECK.finding(x, "19 none kept", () -> x.on(0), NOTHING);
        Check.write(x, 0, "w15 e1 p3");
        x.shed(0);
        CHECK.due("18 keep", x.keep(2), 0);
        x.flicks(0, 2);
        x.look(0, 3);
        x.vain(1);
        CHECK.due("18 keep", x.keep(0), 2);
        CHECK.due("18 two are kept", x.count(9), 2);
        long then = x.digest();
        x.look(1, 0);
        x.undo(0);
        x.flicks(1, 1);
        x.vain(4);
        x.vain(0);
        CHECK.due("19 on", x.on(0), 2);
        CHECK.due("19 as it was", x.digest(), then);
        CHECK.told(x, "19 flicks as they were", x.person(1, 1), 1, 3);
        CHECK.due("19 ways as they were", x.ways(1, 0, 3), 1);
        CHECK.due("19 undo goes on from there", x.undo(1), 1);
        CHECK.due("19 on again", x.on(0), 2);
        CHECK.due("19 the other", x.on(2), 0);
        CHECK.told(x, "19 its flicks", x.person(0, 1), 1, 1);
        CHECK.due("19 all can be", x.count(4), 5);
        CHECK.finding(x, "19 none kept there", () -> x.on(1), NOTHING);
        CHECK.due("18 kept anew", x.keep(0), 0);
        CHECK.due("18 still two", x.count(9), 2);
        x.look(0, 0);
        CHECK.due("19 what was kept last", x.on(0), 0);
    }
}
