/**
 * A lock with wheels, the persons who shut it by habit, and what a boy who looks at it each noon
 * can tell of its code. Names in capitals are those of the document.
 */
public final class TurnedLock {
    public static final int BAD = -1, FULL = -2, FINDING = -3, STATE = -4, SPENT = -6, NONE = -9;

    private static final int NOTHING = 1, BEYOND = 2, UNLIKE = 3, NOUGHT = 4, SIZE = 5;
    private static final int PERSON = 0, EITHER = 1, ANY = 2, BLIND = 3, BOTH = 4, ALL = 5;
    private static final int ROWS = 6, ROW_MOST = 40, TEXTS = 4, TEXT_MOST = 60, BLANK = 32;
    private static final int WHEELS_MOST = 3, SETTINGS_MOST = 216, PERSONS_MOST = 5, FLICKS_MOST = 3;
    private static final int DEEDS_MOST = 16, KEPT_MOST = 3, PAIRS_MOST = 6;
    private static final int NEAR_MOST = 9, LOTS_MOST = 8, SEED_MOST = 2147483646;
    private static final int COUNTS = 10;
    private static final int MISSING = -1;

    private final Row[] rows = new Row[ROWS];
    private final Row[] texts = new Row[TEXTS];
    private final Story[] kept = new Story[KEPT_MOST];
    private final Reader reader = new Reader();
    private final Shed shed = new Shed();
    private final int[] findingCounts = new int[SIZE + 1];
    private int latestFinding = 0;
    private int toldNumber = 0;
    private long toldUpper = 0;
    private long toldLower = 1;

    public TurnedLock() {
        for (int r = 0; r < rows.length; r++) {
            rows[r] = new Row(ROW_MOST);
        }
        for (int t = 0; t < texts.length; t++) {
            texts[t] = new Row(TEXT_MOST);
        }
        for (int k = 0; k < kept.length; k++) {
            kept[k] = new Story(MISSING);
        }
    }

    // ---- 1 rows, texts, sheds

    public int row(int r, int n) {
        return makeAnew(among(rows, r), n, 0);
    }

    public int lay(int r, int i, int v) {
        Row row = among(rows, r);
        int refused = refusedPlace(row, i);
        if (refused != 0) {
            return refused;
        }
        tellNumber(row.places[i]);
        row.places[i] = v;
        return 1;
    }

    public int at(int r, int i) {
        Row row = among(rows, r);
        int refused = refusedPlace(row, i);
        if (refused != 0) {
            return refused;
        }
        tellNumber(row.places[i]);
        return 1;
    }

    public int tear(int r) {
        Row row = among(rows, r);
        int refused = refusedRow(row);
        if (refused != 0) {
            return refused;
        }
        row.size = MISSING;
        return 1;
    }

    public int copy(int r, int i, int to, int j, int n) {
        Row from = among(rows, r);
        Row into = among(rows, to);
        if (from == null || into == null) {
            return BAD;
        }
        if (n < 0) {
            return found(SIZE);
        }
        if (from.isMissing() || into.isMissing()) {
            return found(NOTHING);
        }
        if (!from.hasRun(i, n) || !into.hasRun(j, n)) {
            return found(BEYOND);
        }
        System.arraycopy(from.places, i, into.places, j, n);
        return 1;
    }

    public int mean(int r) {
        Row row = among(rows, r);
        int refused = refusedRow(row);
        if (refused != 0) {
            return refused;
        }
        if (row.size == 0) {
            return found(NOUGHT);
        }
        tellNumber((int) (row.sum() / row.size));
        return 1;
    }

    public int text(int t, int n) {
        return makeAnew(among(texts, t), n, BLANK);
    }

    public int put(int t, int i, int v) {
        Row text = among(texts, t);
        int refused = refusedPlace(text, i);
        if (refused != 0) {
            return refused;
        }
        int was = text.places[i];
        text.places[i] = (byte) v;
        return was + 1000;
    }

    public int fault(int t) {
        Row text = among(texts, t);
        int refused = refusedRow(text);
        return refused != 0 ? refused : reader.faultOf(text);
    }

    public int shed(int t) {
        Row text = among(texts, t);
        int refused = refusedRow(text);
        if (refused != 0) {
            return refused;
        }
        if (reader.faultOf(text) != NONE) {
            return STATE;
        }
        shed.begin(reader);
        for (int k = 0; k < kept.length; k++) {
            kept[k].size = MISSING;
        }
        return shed.amount;
    }

    public int person(int p, int what) {
        Person person = shed.personAt(p);
        if (person == null || what < 0 || what > 3) {
            return BAD;
        }
        tellNumber(factOf(person, p, what));
        return 1;
    }

    public int mark(int p, int kind) {
        Person person = shed.personAt(p);
        if (person == null || kind <= PERSON || kind > ALL) {
            return BAD;
        }
        if (kind == EITHER && person instanceof Either either) {
            return either.unlikeSights();
        }
        if (kind == ANY && person instanceof Any any) {
            return any.waysLeavingFirst();
        }
        if (kind == BLIND && person instanceof Blind) {
            return shed.howManyCanBe();
        }
        if (kind == BOTH && person instanceof Both both) {
            return both.turnedWheels();
        }
        if (kind == ALL && person instanceof All all) {
            return all.turnedNotches();
        }
        return found(UNLIKE);
    }

    public int flicks(int p, int v) {
        Person person = shed.personAt(p);
        if (person == null || v < 1 || v > FLICKS_MOST) {
            return BAD;
        }
        if (shed.story.size > 0) {
            return STATE;
        }
        int were = person.most;
        shed.setFlicks(p, v);
        return were;
    }

    // ---- 2 deeds

    public int look(int p, int seen) {
        if (shed.personAt(p) == null || !shed.wheels.isSetting(seen)) {
            return BAD;
        }
        if (shed.leftBehindLook(p, seen) == 0) {
            return found(NOUGHT);
        }
        if (shed.story.isFull()) {
            return FULL;
        }
        shed.addDeed(p, seen);
        return shed.howManyCanBe();
    }

    public int vain(int code) {
        if (!shed.wheels.isSetting(code)) {
            return BAD;
        }
        if (shed.leftBehindTry(code) == 0) {
            return found(NOUGHT);
        }
        if (shed.story.isFull()) {
            return FULL;
        }
        shed.addDeed(Story.TRY, code);
        return shed.howManyCanBe();
    }

    public int undo(int n) {
        int were = shed.story.size;
        if (n < 0 || n > were) {
            return BAD;
        }
        shed.story.size = n;
        shed.weighAgain();
        return were - n;
    }

    public int keep(int k) {
        if (k < 0 || k >= kept.length) {
            return BAD;
        }
        if (shed.amount == 0) {
            return STATE;
        }
        kept[k].takeFrom(shed.story);
        return kept[k].size;
    }

    public int on(int k) {
        if (k < 0 || k >= kept.length) {
            return BAD;
        }
        if (kept[k].size < 0) {
            return found(NOTHING);
        }
        shed.goOnFrom(kept[k]);
        return kept[k].size;
    }

    // ---- 3 how likely

    public int likely(int code) {
        if (!shed.wheels.isSetting(code)) {
            return BAD;
        }
        return tellChance(shed.weights[code], shed.sumOf(shed.weights));
    }

    public int best() {
        if (shed.amount == 0) {
            return STATE;
        }
        int first = shed.likeliest(shed.weights);
        tellNumber(shed.howManyAre(shed.weights, shed.weights[first]));
        return first;
    }

    public int wheel(int w, int notch) {
        if (!shed.wheels.isWheel(w) || notch < 0 || notch >= shed.wheels.notches) {
            return BAD;
        }
        return tellChance(shed.weightAt(w, notch), shed.sumOf(shed.weights));
    }

    public int certain() {
        if (shed.amount == 0) {
            return STATE;
        }
        int bits = 0;
        int number = 0;
        for (int w = 0; w < shed.wheels.amount; w++) {
            int notch = shed.certainNotch(w);
            bits |= notch >= 0 ? 1 << w : 0;
            number = 10 * number + (notch >= 0 ? notch : 9);
        }
        tellNumber(number);
        return bits;
    }

    // ---- 4 trying

    public int order(int n, int r) {
        Row row = among(rows, r);
        if (row == null || n < 1 || n > ROW_MOST) {
            return BAD;
        }
        if (shed.amount == 0) {
            return STATE;
        }
        int many = Math.min(n, shed.sortCodes());
        row.make(many, 0);
        System.arraycopy(shed.sorted, 0, row.places, 0, many);
        return many;
    }

    public int tries() {
        if (shed.amount == 0) {
            return STATE;
        }
        return tellChance(shed.triesInAll(), shed.sumOf(shed.weights));
    }

    public int within(int n) {
        if (n < 0 || n > SETTINGS_MOST) {
            return BAD;
        }
        if (shed.amount == 0) {
            return STATE;
        }
        return tellChance(shed.weightOfFirst(n), shed.sumOf(shed.weights));
    }

    // ---- 5 what a look is worth

    public int worth(int p) {
        Person person = shed.personAt(p);
        if (person == null) {
            return BAD;
        }
        return tellChance(shed.worthOf(person), shed.sumOf(shed.weights) * person.inAll);
    }

    public int whose() {
        if (shed.amount == 0) {
            return STATE;
        }
        shed.weighWorths();
        tellNumber(shed.firstByWorth(false));
        return shed.firstByWorth(true);
    }

    public int seen(int p, int setting) {
        Person person = shed.personAt(p);
        if (person == null || !shed.wheels.isSetting(setting)) {
            return BAD;
        }
        shed.gather(person, true);
        return tellChance(shed.aside[setting], shed.sumOf(shed.weights) * person.inAll);
    }

    public int sights(int p) {
        Person person = shed.personAt(p);
        if (person == null) {
            return BAD;
        }
        shed.gather(person, true);
        tellNumber(shed.likeliest(shed.aside));
        return shed.howManyAbove(shed.aside);
    }

    // ---- 6 told looks

    public int fits(int r) {
        int refused = refusedTold(r);
        if (refused != 0) {
            return refused;
        }
        shed.weighTold(rows[r]);
        int many = shed.howManyAbove(shed.aside);
        tellNumber(many == 0 ? NONE : shed.firstAbove(shed.aside));
        return many;
    }

    public int chance(int r) {
        int refused = refusedTold(r);
        if (refused != 0) {
            return refused;
        }
        shed.weighTold(rows[r]);
        return tellChance(shed.sumOf(shed.aside), shed.waysOfTold(rows[r]));
    }

    public int read(int r) {
        int refused = refusedTold(r);
        if (refused != 0) {
            return refused;
        }
        shed.weighTold(rows[r]);
        if (shed.howManyAbove(shed.aside) == 0) {
            return found(NOUGHT);
        }
        return shed.likeliest(shed.aside);
    }

    // ---- 7 who shut it

    public int who(int code, int seen) {
        if (!shed.wheels.isSetting(code) || !shed.wheels.isSetting(seen)) {
            return BAD;
        }
        tellNumber(shed.likeliestWho(code, seen));
        return shed.allWho(code, seen);
    }

    public int ways(int p, int code, int seen) {
        Person person = shed.personAt(p);
        if (person == null || !shed.wheels.isSetting(code) || !shed.wheels.isSetting(seen)) {
            return BAD;
        }
        return person.timesOf(shed.wheels.turnBetween(code, seen));
    }

    public int apart(int code, int seen) {
        if (!shed.wheels.isSetting(code) || !shed.wheels.isSetting(seen)) {
            return BAD;
        }
        int turn = shed.wheels.turnBetween(code, seen);
        tellNumber(shed.wheels.wheelsIn(turn));
        return shed.wheels.fewestNotchesIn(turn);
    }

    public int near(int code, int n) {
        if (!shed.wheels.isSetting(code) || n < 0 || n > NEAR_MOST) {
            return BAD;
        }
        int many = 0;
        for (int s = 0; s < shed.wheels.settings; s++) {
            many += shed.wheels.fewestNotchesIn(shed.wheels.turnBetween(code, s)) <= n ? 1 : 0;
        }
        return many;
    }

    // ---- 8 lots

    public int lots(int n, int seed) {
        if (n < 1 || n > LOTS_MOST || seed < 1 || seed > SEED_MOST) {
            return BAD;
        }
        if (shed.amount == 0) {
            return STATE;
        }
        return shed.shutByLots(n, seed);
    }

    // ---- 9 what is told

    public int asked() {
        return toldNumber;
    }

    public long upper() {
        return toldUpper;
    }

    public long lower() {
        return toldLower;
    }

    public int count(int what) {
        switch (what) {
            case 0: return shed.amount;
            case 1: return shed.wheels.amount;
            case 2: return shed.wheels.notches;
            case 3: return shed.wheels.settings;
            case 4: return shed.howManyCanBe();
            case 5: return shed.story.size;
            case 6: return shed.howManyAny();
            case 7: return howManyThere(rows);
            case 8: return howManyThere(texts);
            case 9: return howManyKept();
            default: return BAD;
        }
    }

    public int finding() {
        return latestFinding;
    }

    public int findings(int f) {
        return f < NOTHING || f > SIZE ? BAD : findingCounts[f];
    }

    public long digest() {
        long h = 17;
        for (int what = 0; what < COUNTS; what++) {
            h = 31 * h + count(what);
        }
        for (int s = 0; s < shed.wheels.settings; s++) {
            h = 31 * h + shed.weights[s];
        }
        h = digestPersons(h);
        for (int k = 0; k < kept.length; k++) {
            h = 31 * h + kept[k].size;
        }
        h = digestRows(h, rows);
        return digestRows(h, texts);
    }

    // ---- what the calls share

    private static Row among(Row[] all, int i) {
        return i < 0 || i >= all.length ? null : all[i];
    }

    private int makeAnew(Row row, int n, int filling) {
        if (row == null || n > row.places.length) {
            return BAD;
        }
        if (n < 0) {
            return found(SIZE);
        }
        row.make(n, filling);
        return n;
    }

    /** 0 if it is there, else what it is refused with. */
    private int refusedRow(Row row) {
        if (row == null) {
            return BAD;
        }
        return row.isMissing() ? found(NOTHING) : 0;
    }

    /** 0 if there is such a place in it, else what it is refused with. */
    private int refusedPlace(Row row, int i) {
        int refused = refusedRow(row);
        if (refused != 0) {
            return refused;
        }
        return row.has(i) ? 0 : found(BEYOND);
    }

    private int found(int which) {
        latestFinding = which;
        findingCounts[which]++;
        return FINDING;
    }

    private void tellNumber(int v) {
        toldNumber = v;
    }

    private int tellChance(long above, long below) {
        long shared = greatestShared(above, below);
        if (shared != 0) {
            toldUpper = above / shared;
            toldLower = below / shared;
        }
        return 1;
    }

    private static long greatestShared(long a, long b) {
        // Euclid needs fewer than 93 steps for any two longs.
        for (int step = 0; step < 100 && b != 0; step++) {
            long rest = a % b;
            a = b;
            b = rest;
        }
        return a;
    }

    private int factOf(Person person, int p, int what) {
        switch (what) {
            case 0: return person.kind();
            case 1: return person.most;
            case 2: return person.inAll;
            default: return shed.story.looksAt(p);
        }
    }

    /** 0 if the ROW is one of told LOOKS, else what it is refused with. */
    private int refusedTold(int r) {
        Row row = among(rows, r);
        if (row == null) {
            return BAD;
        }
        if (shed.amount == 0) {
            return STATE;
        }
        if (row.isMissing()) {
            return found(NOTHING);
        }
        if (row.size > 2 * PAIRS_MOST || row.size % 2 != 0) {
            return found(SIZE);
        }
        for (int i = 0; i + 1 < row.size; i += 2) {
            if (shed.personAt(row.places[i]) == null || !shed.wheels.isSetting(row.places[i + 1])) {
                return found(UNLIKE);
            }
        }
        return 0;
    }

    private static int howManyThere(Row[] all) {
        int many = 0;
        for (int i = 0; i < all.length; i++) {
            many += all[i].isMissing() ? 0 : 1;
        }
        return many;
    }

    private int howManyKept() {
        int many = 0;
        for (int k = 0; k < kept.length; k++) {
            many += kept[k].size < 0 ? 0 : 1;
        }
        return many;
    }

    private long digestPersons(long h) {
        for (int p = 0; p < shed.amount; p++) {
            Person person = shed.personAt(p);
            for (int what = 0; what <= 3 && person != null; what++) {
                h = 31 * h + factOf(person, p, what);
            }
        }
        return h;
    }

    private static long digestRows(long h, Row[] all) {
        for (int i = 0; i < all.length; i++) {
            h = 31 * h + all[i].size;
            for (int j = 0; j < all[i].size; j++) {
                h = 31 * h + all[i].places[j];
            }
        }
        return h;
    }

    /** A ROW of ints, or a TEXT (whose ints are bytes). */
    private static final class Row {
        final int[] places;
        int size = MISSING;

        Row(int most) {
            places = new int[Math.max(0, most)];
        }

        boolean isMissing() {
            return size < 0;
        }

        boolean has(int i) {
            return i >= 0 && i < size;
        }

        boolean hasRun(int i, int n) {
            return i >= 0 && n >= 0 && n <= size - i;
        }

        void make(int n, int filling) {
            size = Math.min(n, places.length);
            for (int i = 0; i < size; i++) {
                places[i] = filling;
            }
        }

        long sum() {
            long all = 0;
            for (int i = 0; i < size; i++) {
                all += places[i];
            }
            return all;
        }
    }

    /** Reads a TEXT as a SHED; what it tells holds only if there was no FAULT. */
    private static final class Reader {
        // No byte is this number, so that the end of a TEXT is none of the signs.
        private static final int END = 1000;

        int wheels;
        int notches;
        int persons;
        final int[] kinds = new int[PERSONS_MOST];
        final int[] flickRow = new int[PERSONS_MOST];

        int faultOf(Row text) {
            int place = behindBlanks(text, 0);
            if (signAt(text, place) != 'w') {
                return place;
            }
            wheels = figureAt(text, place + 1, 1, WHEELS_MOST);
            if (wheels == NONE) {
                return place + 1;
            }
            notches = figureAt(text, place + 2, 4, 6);
            if (notches == NONE) {
                return place + 2;
            }
            return personsFault(text, behindBlanks(text, place + 3));
        }

        private int personsFault(Row text, int from) {
            int place = from;
            for (int p = 0; p < PERSONS_MOST; p++) {
                if (place >= text.size) {
                    return p == 0 ? place : NONE;
                }
                kinds[p] = kindOf(signAt(text, place));
                if (kinds[p] == NONE) {
                    return place;
                }
                flickRow[p] = figureAt(text, place + 1, 1, FLICKS_MOST);
                if (flickRow[p] == NONE) {
                    return place + 1;
                }
                persons = p + 1;
                place = behindBlanks(text, place + 2);
            }
            return place >= text.size ? NONE : place;
        }

        private static int behindBlanks(Row text, int from) {
            int place = from;
            while (place < text.size && signAt(text, place) == BLANK) {
                place++;
            }
            return place;
        }

        private static int signAt(Row text, int place) {
            return text.has(place) ? text.places[place] : END;
        }

        private static int figureAt(Row text, int place, int least, int most) {
            int figure = signAt(text, place) - '0';
            return figure < least || figure > most ? NONE : figure;
        }

        private static int kindOf(int letter) {
            switch (letter) {
                case 'p': return PERSON;
                case 'e': return EITHER;
                case 'a': return ANY;
                case 'b': return BLIND;
                case 'o': return BOTH;
                case 'l': return ALL;
                default: return NONE;
            }
        }
    }

    /**
     * SETTINGS as numbers. A turn is told as the SETTING to which it brings 0, so that each WHEEL's
     * NOTCH in it is how far up that WHEEL goes.
     */
    private static final class Wheels {
        int amount = 0;
        int notches = 0;
        int settings = 0;
        private final int[] notchRow = new int[WHEELS_MOST * SETTINGS_MOST];

        void make(int wheelsDue, int notchesDue) {
            amount = Math.min(wheelsDue, WHEELS_MOST);
            notches = notchesDue;
            settings = 1;
            for (int w = 0; w < amount; w++) {
                settings = Math.min(SETTINGS_MOST, settings * notches);
            }
            for (int s = 0; s < settings && notches > 0; s++) {
                int rest = s;
                for (int w = amount - 1; w >= 0; w--) {
                    notchRow[WHEELS_MOST * s + w] = rest % notches;
                    rest /= notches;
                }
            }
        }

        boolean isSetting(int s) {
            return s >= 0 && s < settings;
        }

        boolean isWheel(int w) {
            return w >= 0 && w < amount;
        }

        int notchOf(int s, int w) {
            int place = WHEELS_MOST * s + w;
            return place >= 0 && place < notchRow.length ? notchRow[place] : 0;
        }

        int turnBetween(int code, int seen) {
            if (!isSetting(code) || !isSetting(seen)) {
                return 0;
            }
            int turn = 0;
            for (int w = 0; w < amount; w++) {
                int up = notchRow[WHEELS_MOST * seen + w] - notchRow[WHEELS_MOST * code + w];
                turn = turn * notches + (up < 0 ? up + notches : up);
            }
            return turn;
        }

        int turned(int code, int turn) {
            if (!isSetting(code) || !isSetting(turn)) {
                return 0;
            }
            int seen = 0;
            for (int w = 0; w < amount; w++) {
                int notch = notchRow[WHEELS_MOST * code + w] + notchRow[WHEELS_MOST * turn + w];
                seen = seen * notches + (notch < notches ? notch : notch - notches);
            }
            return seen;
        }

        int wheelsIn(int turn) {
            int many = 0;
            for (int w = 0; w < amount; w++) {
                many += notchOf(turn, w) == 0 ? 0 : 1;
            }
            return many;
        }

        int fewestNotchesIn(int turn) {
            int fewest = 0;
            for (int w = 0; w < amount; w++) {
                int up = notchOf(turn, w);
                fewest += Math.min(up, notches - up);
            }
            return fewest;
        }

        boolean leavesAhead(int turn, int wheel) {
            for (int w = 0; w < wheel; w++) {
                if (notchOf(turn, w) != 0) {
                    return false;
                }
            }
            return true;
        }
    }

    /** One who shuts the lock: the last WHEEL, up. */
    private static class Person {
        final Wheels wheels;
        // The turns that this one makes, and of every turn in how many WAYS; the rows are the SHED's,
        // who uses them again for those that come later.
        final int[] turns;
        final int[] times;
        int listed = 0;
        int inAll = 0;
        int most = 1;

        Person(Wheels wheels, int[] turns, int[] times) {
            this.wheels = wheels;
            this.turns = turns;
            this.times = times;
        }

        int kind() {
            return PERSON;
        }

        int countWays(int turn) {
            int last = wheels.amount - 1;
            int up = wheels.notchOf(turn, last);
            return wheels.leavesAhead(turn, last) && up >= 1 && up <= most ? 1 : 0;
        }

        final void learn(int flicksDue) {
            most = flicksDue;
            listed = 0;
            inAll = 0;
            for (int turn = 0; turn < wheels.settings && turn < times.length; turn++) {
                times[turn] = countWays(turn);
                inAll += times[turn];
                if (times[turn] > 0 && listed < turns.length) {
                    turns[listed] = turn;
                    listed++;
                }
            }
        }

        final int timesOf(int turn) {
            return wheels.isSetting(turn) && turn < times.length ? times[turn] : 0;
        }
    }

    private static class Either extends Person {
        Either(Wheels wheels, int[] turns, int[] times) {
            super(wheels, turns, times);
        }

        int kind() {
            return EITHER;
        }

        int firstTurned() {
            return wheels.amount - 1;
        }

        final int countWays(int turn) {
            int first = firstTurned();
            if (!wheels.leavesAhead(turn, first)) {
                return 0;
            }
            int many = 1;
            for (int w = first; w < wheels.amount; w++) {
                int up = wheels.notchOf(turn, w);
                int down = wheels.notches - up;
                many *= (up >= 1 && up <= most ? 1 : 0) + (down >= 1 && down <= most ? 1 : 0);
            }
            return many;
        }

        final int unlikeSights() {
            return listed;
        }
    }

    private static class Any extends Person {
        Any(Wheels wheels, int[] turns, int[] times) {
            super(wheels, turns, times);
        }

        int kind() {
            return ANY;
        }

        int countWays(int turn) {
            return wheels.wheelsIn(turn) == 1 && noneAboveFlicks(turn) ? 1 : 0;
        }

        final boolean noneAboveFlicks(int turn) {
            for (int w = 0; w < wheels.amount; w++) {
                if (wheels.notchOf(turn, w) > most) {
                    return false;
                }
            }
            return true;
        }

        final int waysLeavingFirst() {
            int many = 0;
            for (int i = 0; i < listed; i++) {
                many += wheels.notchOf(turns[i], 0) == 0 ? timesOf(turns[i]) : 0;
            }
            return many;
        }
    }

    private static final class Blind extends Person {
        Blind(Wheels wheels, int[] turns, int[] times) {
            super(wheels, turns, times);
        }

        int kind() {
            return BLIND;
        }

        int countWays(int turn) {
            return 1;
        }
    }

    private static final class Both extends Either {
        Both(Wheels wheels, int[] turns, int[] times) {
            super(wheels, turns, times);
        }

        int kind() {
            return BOTH;
        }

        int firstTurned() {
            return Math.max(0, wheels.amount - 2);
        }

        int turnedWheels() {
            return wheels.amount - firstTurned();
        }
    }

    private static final class All extends Any {
        All(Wheels wheels, int[] turns, int[] times) {
            super(wheels, turns, times);
        }

        int kind() {
            return ALL;
        }

        int countWays(int turn) {
            return noneAboveFlicks(turn) ? 1 : 0;
        }

        int turnedNotches() {
            int many = 0;
            for (int i = 0; i < listed; i++) {
                for (int w = 0; w < wheels.amount; w++) {
                    many += timesOf(turns[i]) * wheels.notchOf(turns[i], w);
                }
            }
            return many;
        }
    }

    /** FLICKS and DEEDS of a SHED: its WEIGHTS follow from them, so that no more need be kept. */
    private static final class Story {
        static final int TRY = -1;

        int size;
        final int[] flickRow = new int[PERSONS_MOST];
        final int[] persons = new int[DEEDS_MOST];
        final int[] settings = new int[DEEDS_MOST];

        Story(int size) {
            this.size = size;
        }

        boolean isFull() {
            return size >= DEEDS_MOST;
        }

        void add(int p, int setting) {
            if (size >= 0 && !isFull()) {
                persons[size] = p;
                settings[size] = setting;
                size++;
            }
        }

        void takeFrom(Story other) {
            size = other.size;
            System.arraycopy(other.flickRow, 0, flickRow, 0, PERSONS_MOST);
            System.arraycopy(other.persons, 0, persons, 0, DEEDS_MOST);
            System.arraycopy(other.settings, 0, settings, 0, DEEDS_MOST);
        }

        int looksAt(int p) {
            int many = 0;
            for (int d = 0; d < size; d++) {
                many += persons[d] == p ? 1 : 0;
            }
            return many;
        }
    }

    /** The lock, its PERSONS, what was done, and what each SETTING weighs as the CODE by that. */
    private static final class Shed {
        int amount = 0;
        final Wheels wheels = new Wheels();
        final Story story = new Story(0);
        final long[] weights = new long[SETTINGS_MOST];
        // Other numbers of each SETTING, for one call alone.
        final long[] aside = new long[SETTINGS_MOST];
        final int[] sorted = new int[SETTINGS_MOST];
        private final long[] worths = new long[PERSONS_MOST];
        private final Person[] persons = new Person[PERSONS_MOST];
        private final int[][] turnRows = new int[PERSONS_MOST][SETTINGS_MOST];
        private final int[][] timesRows = new int[PERSONS_MOST][SETTINGS_MOST];

        // -- who is there, what was done

        void begin(Reader told) {
            wheels.make(told.wheels, told.notches);
            amount = told.persons;
            for (int p = 0; p < amount; p++) {
                persons[p] = newPerson(told.kinds[p], turnRows[p], timesRows[p]);
                setFlicks(p, told.flickRow[p]);
            }
            story.size = 0;
            weighAgain();
        }

        private Person newPerson(int kind, int[] turns, int[] times) {
            switch (kind) {
                case EITHER: return new Either(wheels, turns, times);
                case ANY: return new Any(wheels, turns, times);
                case BLIND: return new Blind(wheels, turns, times);
                case BOTH: return new Both(wheels, turns, times);
                case ALL: return new All(wheels, turns, times);
                default: return new Person(wheels, turns, times);
            }
        }

        Person personAt(int p) {
            return p < 0 || p >= amount ? null : persons[p];
        }

        void setFlicks(int p, int v) {
            Person person = personAt(p);
            if (person != null) {
                person.learn(v);
                story.flickRow[p] = v;
            }
        }

        int howManyAny() {
            int many = 0;
            for (int p = 0; p < amount; p++) {
                many += persons[p] instanceof Any ? 1 : 0;
            }
            return many;
        }

        void goOnFrom(Story other) {
            story.takeFrom(other);
            for (int p = 0; p < amount; p++) {
                setFlicks(p, story.flickRow[p]);
            }
            weighAgain();
        }

        void addDeed(int p, int setting) {
            story.add(p, setting);
            weigh(p, setting);
        }

        void weighAgain() {
            setAll(weights, 1);
            for (int d = 0; d < story.size; d++) {
                weigh(story.persons[d], story.settings[d]);
            }
        }

        private void weigh(int p, int setting) {
            Person person = personAt(p);
            if (person != null) {
                weighLook(weights, person, setting);
            } else if (wheels.isSetting(setting)) {
                weights[setting] = 0;
            }
        }

        private void weighLook(long[] numbers, Person person, int seen) {
            for (int code = 0; code < wheels.settings; code++) {
                if (numbers[code] != 0) {
                    numbers[code] *= person.timesOf(wheels.turnBetween(code, seen));
                }
            }
        }

        int leftBehindLook(int p, int seen) {
            System.arraycopy(weights, 0, aside, 0, wheels.settings);
            Person person = personAt(p);
            if (person != null) {
                weighLook(aside, person, seen);
            }
            return howManyAbove(aside);
        }

        int leftBehindTry(int code) {
            int gone = wheels.isSetting(code) && weights[code] > 0 ? 1 : 0;
            return howManyCanBe() - gone;
        }

        // -- numbers of each SETTING: its WEIGHT, or what is aside

        private void setAll(long[] numbers, long v) {
            for (int s = 0; s < wheels.settings; s++) {
                numbers[s] = v;
            }
        }

        long sumOf(long[] numbers) {
            long sum = 0;
            for (int s = 0; s < wheels.settings; s++) {
                sum += numbers[s];
            }
            return sum;
        }

        int howManyAbove(long[] numbers) {
            int many = 0;
            for (int s = 0; s < wheels.settings; s++) {
                many += numbers[s] > 0 ? 1 : 0;
            }
            return many;
        }

        int howManyAre(long[] numbers, long v) {
            int many = 0;
            for (int s = 0; s < wheels.settings; s++) {
                many += numbers[s] == v ? 1 : 0;
            }
            return many;
        }

        int firstAbove(long[] numbers) {
            int first = 0;
            while (first + 1 < wheels.settings && numbers[first] == 0) {
                first++;
            }
            return first;
        }

        int likeliest(long[] numbers) {
            int first = 0;
            for (int s = 1; s < wheels.settings; s++) {
                first = numbers[s] > numbers[first] ? s : first;
            }
            return first;
        }

        int howManyCanBe() {
            return howManyAbove(weights);
        }

        // -- each WHEEL

        long weightAt(int wheel, int notch) {
            long sum = 0;
            for (int s = 0; s < wheels.settings; s++) {
                sum += wheels.notchOf(s, wheel) == notch ? weights[s] : 0;
            }
            return sum;
        }

        /** The one NOTCH at which a WHEEL can be, or NONE. */
        int certainNotch(int wheel) {
            int notch = wheels.notchOf(firstAbove(weights), wheel);
            return weightAt(wheel, notch) == sumOf(weights) ? notch : NONE;
        }

        // -- trying

        /** Brings the CODES that can be, best tried ahead, to the sorted row: how many. */
        int sortCodes() {
            int many = 0;
            for (int code = 0; code < wheels.settings; code++) {
                if (weights[code] > 0) {
                    int place = many;
                    for (; place > 0 && weights[sorted[place - 1]] < weights[code]; place--) {
                        sorted[place] = sorted[place - 1];
                    }
                    sorted[place] = code;
                    many++;
                }
            }
            return many;
        }

        long triesInAll() {
            int many = sortCodes();
            long sum = 0;
            for (int i = 0; i < many; i++) {
                sum += (i + 1) * weights[sorted[i]];
            }
            return sum;
        }

        long weightOfFirst(int n) {
            int many = Math.min(n, sortCodes());
            long sum = 0;
            for (int i = 0; i < many; i++) {
                sum += weights[sorted[i]];
            }
            return sum;
        }

        // -- the next LOOK

        /** Aside comes, for what may be SEEN, what all CODES weigh there together, or the likeliest. */
        void gather(Person person, boolean together) {
            if (person instanceof Blind) {
                // Every CODE comes to every SETTING once: no need to turn 216 by 216 times.
                setAll(aside, together ? sumOf(weights) : weights[likeliest(weights)]);
                return;
            }
            setAll(aside, 0);
            for (int code = 0; code < wheels.settings; code++) {
                for (int i = 0; i < person.listed && weights[code] > 0; i++) {
                    int turn = person.turns[i];
                    int seen = wheels.turned(code, turn);
                    long weight = weights[code] * person.timesOf(turn);
                    aside[seen] = together ? aside[seen] + weight : Math.max(aside[seen], weight);
                }
            }
        }

        long worthOf(Person person) {
            gather(person, false);
            return sumOf(aside);
        }

        void weighWorths() {
            for (int p = 0; p < amount; p++) {
                Person person = personAt(p);
                worths[p] = person == null ? 0 : worthOf(person);
            }
        }

        /** The first whose LOOK is worth most, or least; each worth is by that one's WAYS. */
        int firstByWorth(boolean most) {
            int first = 0;
            for (int p = 1; p < amount; p++) {
                Person one = personAt(p);
                Person ahead = personAt(first);
                if (one != null && ahead != null) {
                    long more = worths[p] * ahead.inAll - worths[first] * one.inAll;
                    first = (most ? more > 0 : more < 0) ? p : first;
                }
            }
            return first;
        }

        // -- told LOOKS: a ROW of pairs that has been looked through

        void weighTold(Row told) {
            setAll(aside, 1);
            for (int i = 0; i + 1 < told.size; i += 2) {
                Person person = personAt(told.places[i]);
                if (person != null) {
                    weighLook(aside, person, told.places[i + 1]);
                }
            }
        }

        long waysOfTold(Row told) {
            long many = wheels.settings;
            for (int i = 0; i + 1 < told.size; i += 2) {
                Person person = personAt(told.places[i]);
                many *= person == null ? 1 : person.inAll;
            }
            return many;
        }

        // -- who shut it

        int allWho(int code, int seen) {
            int turn = wheels.turnBetween(code, seen);
            int bits = 0;
            for (int p = 0; p < amount; p++) {
                Person person = personAt(p);
                bits |= person != null && person.timesOf(turn) > 0 ? 1 << p : 0;
            }
            return bits;
        }

        int likeliestWho(int code, int seen) {
            int turn = wheels.turnBetween(code, seen);
            int first = NONE;
            int above = 0;
            int below = 1;
            for (int p = 0; p < amount; p++) {
                Person person = personAt(p);
                if (person != null && person.timesOf(turn) * below > above * person.inAll) {
                    first = p;
                    above = person.timesOf(turn);
                    below = person.inAll;
                }
            }
            return first;
        }

        // -- lots

        int shutByLots(int n, int seed) {
            story.size = 0;
            weighAgain();
            long number = nextLot(seed);
            int code = lotAmong(number, wheels.settings);
            for (int i = 0; i < n; i++) {
                number = nextLot(number);
                int p = lotAmong(number / 16, amount);
                number = nextLot(number);
                Person person = personAt(p);
                if (person != null) {
                    addDeed(p, sightOf(person, code, lotAmong(number / 32, person.inAll)));
                }
            }
            return code;
        }

        private static long nextLot(long number) {
            return 48271 * number % 2147483647;
        }

        private static int lotAmong(long number, int many) {
            return many <= 0 ? 0 : (int) (number % many);
        }

        /** Where a WAY brings it; WAYS go by the SETTINGS to which they bring it. */
        private int sightOf(Person person, int code, int way) {
            int left = way;
            for (int seen = 0; seen < wheels.settings; seen++) {
                left -= person.timesOf(wheels.turnBetween(code, seen));
                if (left < 0) {
                    return seen;
                }
            }
            return code;
        }
    }
}
