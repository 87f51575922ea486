import java.lang.management.ManagementFactory;

/** All calls of a run live in one room: what an object makes, and that calls make next to nothing. */
final class RoomTest {
    private static final com.sun.management.ThreadMXBean THREADS =
        (com.sun.management.ThreadMXBean) ManagementFactory.getThreadMXBean();

    public static void main(String[] args) {
        TurnedLock x = Check.shedOf("w36 b3 b3 b3 b3 b3");
        dearCalls(x);
        long before = made();
        for (int i = 0; i < 512; i++) {
            dearCalls(x);
        }
        boolean calls = small("512 times all dear calls", made() - before, 1 << 16);
        before = made();
        for (int i = 0; i < 512; i++) {
            x.shed(3);
        }
        boolean sheds = small("512 sheds", made() - before, 512 * 5 * 64 + (1 << 16));
        before = made();
        new TurnedLock();
        boolean objects = small("an object", made() - before, 1 << 16);
        if (!calls || !sheds || !objects) {
            System.exit(1);
        }
    }

    private static long made() {
        return THREADS.getThreadAllocatedBytes(Thread.currentThread().getId());
    }

    private static boolean small(String what, long bytes, long most) {
        System.out.println(what + ": " + bytes + " bytes of at most " + most);
        return bytes <= most;
    }

    private static void dearCalls(TurnedLock x) {
        x.row(0, 12);
        x.fits(0);
        x.chance(0);
        x.read(0);
        x.lots(8, 4711);
        x.keep(0);
        x.on(0);
        x.undo(1);
        x.order(40, 1);
        x.tries();
        x.within(100);
        x.worth(0);
        x.whose();
        x.seen(0, 0);
        x.sights(0);
        x.look(0, 0);
        x.vain(0);
        x.likely(0);
        x.best();
        x.wheel(0, 0);
        x.certain();
        x.who(0, 0);
        x.ways(0, 0, 0);
        x.apart(0, 0);
        x.near(0, 3);
        x.mark(0, 3);
        x.person(0, 3);
        x.fault(3);
        x.text(2, 60);
        x.copy(0, 0, 1, 0, 1);
        x.tear(1);
        x.digest();
    }
}
