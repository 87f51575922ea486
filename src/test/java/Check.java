/** What the tests share: a count of wrong answers, and sheds made by their texts. */
final class Check {
    private int wrong = 0;
    private int calls = 0;

    void due(String call, long got, long want) {
        calls++;
        if (got != want) {
            wrong++;
            System.out.println(call + " answered " + got + ", due is " + want);
        }
    }

    /** A refusal by a FINDING: the answer, which one, and that it was counted. */
    void finding(TurnedLock lock, String call, java.util.function.IntSupplier asking, int which) {
        int before = lock.findings(which);
        due(call, asking.getAsInt(), TurnedLock.FINDING);
        due(call + " finding()", lock.finding(), which);
        due(call + " findings(" + which + ")", lock.findings(which), before + 1);
    }

    /** An answer and the number that is told by asked(). */
    void told(TurnedLock lock, String call, int got, int want, int asked) {
        due(call, got, want);
        due(call + " asked()", lock.asked(), asked);
    }

    /** A call that answers 1 and tells a chance. */
    void chance(TurnedLock lock, String call, int got, long upper, long lower) {
        due(call, got, 1);
        due(call + " upper()", lock.upper(), upper);
        due(call + " lower()", lock.lower(), lower);
    }

    /** All rows of numbers: none of them may be answered by anything but BAD. */
    void bad(String call, int... got) {
        for (int i = 0; i < got.length; i++) {
            due(call + " #" + i, got[i], TurnedLock.BAD);
        }
    }

    void end() {
        System.out.println(calls + " answers looked at, " + wrong + " wrong");
        if (wrong != 0 || calls == 0) {
            System.exit(1);
        }
    }

    static void write(TurnedLock lock, int t, String signs) {
        lock.text(t, signs.length());
        for (int i = 0; i < signs.length(); i++) {
            lock.put(t, i, signs.charAt(i));
        }
    }

    static TurnedLock shedOf(String signs) {
        TurnedLock lock = new TurnedLock();
        write(lock, 3, signs);
        if (lock.shed(3) < 1) {
            throw new IllegalStateException("no shed: " + signs);
        }
        return lock;
    }

    static void lay(TurnedLock lock, int r, int... numbers) {
        lock.row(r, numbers.length);
        for (int i = 0; i < numbers.length; i++) {
            lock.lay(r, i, numbers[i]);
        }
    }
}
