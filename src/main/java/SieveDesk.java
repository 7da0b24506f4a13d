/**
 * A desk of things with numbers, and the scales, sieves and orders that are asked of them.
 *
 * An asking can fail. The failure then stands in the Tally, and as long as it stands no asking
 * begins: what is still open runs out with values that nobody uses, and the call sees the failure
 * at its end. So a call works on drafts, and takes them over only when no failure stands.
 *
 * A scale, sieve or order is made only of such as are made already, and there are 24 of each at
 * most: so no more than 72 askings, some 130 calls, ever stand open at once. The numbers they are
 * made of are tested when they are made, and nothing is ever taken away: they stay good.
 */
public final class SieveDesk {
    public static final int BAD = -1, FULL = -2, FAILED = -10;

    private static final int MOST_THINGS = 40;
    private static final int COLUMNS = 3;
    private static final int ROW_ITEMS = 8;

    private static final int ZERO = 1, INDEX = 2, NONE = 3, SPENT = 4;

    private static final int SCALE_COLUMN = 0, SCALE_NUMBERS = 1, SCALE_SUM = 2, SCALE_TIMES = 3,
            SCALE_BY = 4, SCALE_LESS = 5, SCALE_WHERE = 6, SCALE_ITEM = 7, SCALE_HELD = 8,
            SCALE_NOW = 9, SCALE_TIMES_ASKED = 10, SCALE_NOTHING = 11;

    private static final int SIEVE_ALL = 0, SIEVE_ABOVE = 1, SIEVE_LIKE = 2, SIEVE_NOT = 3,
            SIEVE_BOTH = 4, SIEVE_EITHER = 5, SIEVE_EACH = 6, SIEVE_FIRST = 7, SIEVE_SAFE = 8,
            SIEVE_NOTHING = 9;

    private static final int ORDER_RISING = 0, ORDER_TURNED = 1, ORDER_THEN = 2, ORDER_BEFORE = 3,
            ORDER_BY_NUMBER = 4, ORDER_NOTHING = 5;

    private final long[] cells = new long[MOST_THINGS * COLUMNS];
    private int thingCount = 0;
    private final long[] row = new long[ROW_ITEMS];

    private final int[] listed = new int[MOST_THINGS];
    private final int[] draft = new int[MOST_THINGS];
    private int listLength = 0;

    private final Shelf scales = new Shelf();
    private final Shelf sieves = new Shelf();
    private final Shelf orders = new Shelf();

    private Grouping grouping = new Grouping();
    private Grouping draftGrouping = new Grouping();

    private final Tally tally = new Tally();
    private long latestTold = 0;

    public SieveDesk() {
    }

    // ---- things, the row, the list

    public int thing(long a, long b, long c) {
        if (thingCount >= MOST_THINGS) {
            return FULL;
        }
        int number = thingCount;
        cells[cellOf(number, 0)] = a;
        cells[cellOf(number, 1)] = b;
        cells[cellOf(number, 2)] = c;
        thingCount++;
        // The list has each thing once at most, so there is room for one that is new.
        listed[listLength] = number;
        listLength++;
        return number;
    }

    public int change(int thing, int column, long v) {
        if (!isThing(thing) || !isColumn(column)) {
            return BAD;
        }
        cells[cellOf(thing, column)] = v;
        return 1;
    }

    public long get(int thing, int column) {
        if (!isThing(thing) || !isColumn(column)) {
            return 0;
        }
        return cells[cellOf(thing, column)];
    }

    public int item(int i, long v) {
        if (!isPlaceOfRow(i)) {
            return BAD;
        }
        row[i] = v;
        return 1;
    }

    public int all() {
        for (int i = 0; i < thingCount; i++) {
            listed[i] = i;
        }
        listLength = thingCount;
        return listLength;
    }

    public int list(int place) {
        return place >= 0 && place < listLength ? listed[place] : BAD;
    }

    // ---- what is made

    public int scale(int kind, int a, int b) {
        if (!canMakeScale(kind, a, b)) {
            return BAD;
        }
        if (scales.isFull()) {
            return FULL;
        }
        if (kind == SCALE_NOW) {
            return makeNow(a, b);
        }
        return scales.make(kind, a, b, kind == SCALE_HELD ? row[a] : 0);
    }

    public int sieve(int kind, int a, int b) {
        if (!canMakeSieve(kind, a, b)) {
            return BAD;
        }
        return sieves.isFull() ? FULL : sieves.make(kind, a, b, 0);
    }

    public int order(int kind, int a, int b) {
        if (!canMakeOrder(kind, a, b)) {
            return BAD;
        }
        return orders.isFull() ? FULL : orders.make(kind, a, b, 0);
    }

    // ---- calls that ask

    public int tell(int scale, int thing) {
        if (!scales.has(scale) || !isThing(thing)) {
            return BAD;
        }
        if (!tally.opensCall()) {
            return FULL;
        }
        long told = askScale(scale, thing);
        if (tally.hasFailure()) {
            return tally.endFailedCall();
        }
        latestTold = told;
        return 1;
    }

    public int sift(int sieve) {
        if (!sieves.has(sieve)) {
            return BAD;
        }
        if (!tally.opensCall()) {
            return FULL;
        }
        int kept = 0;
        for (int i = 0; i < listLength && !tally.hasFailure(); i++) {
            if (askSieve(sieve, listed[i])) {
                draft[kept] = listed[i];
                kept++;
            }
        }
        if (tally.hasFailure()) {
            return tally.endFailedCall();
        }
        takeDraft(kept);
        return kept;
    }

    public int sort(int order) {
        if (!orders.has(order)) {
            return BAD;
        }
        if (!tally.opensCall()) {
            return FULL;
        }
        System.arraycopy(listed, 0, draft, 0, listLength);
        int moves = 0;
        for (int i = 1; i < listLength && !tally.hasFailure(); i++) {
            moves += moveForward(order, i);
        }
        if (tally.hasFailure()) {
            return tally.endFailedCall();
        }
        takeDraft(listLength);
        return moves;
    }

    public int sum(int scale) {
        if (!scales.has(scale)) {
            return BAD;
        }
        if (!tally.opensCall()) {
            return FULL;
        }
        long total = 0;
        for (int i = 0; i < listLength && !tally.hasFailure(); i++) {
            total += askScale(scale, listed[i]);
        }
        if (tally.hasFailure()) {
            return tally.endFailedCall();
        }
        latestTold = total;
        return 1;
    }

    public int group(int key, int of) {
        if (!scales.has(key) || !scales.has(of)) {
            return BAD;
        }
        if (!tally.opensCall()) {
            return FULL;
        }
        draftGrouping.clear();
        for (int i = 0; i < listLength && !tally.hasFailure(); i++) {
            long keyTold = askScale(key, listed[i]);
            draftGrouping.add(keyTold, askScale(of, listed[i]), listed[i]);
        }
        if (tally.hasFailure()) {
            return tally.endFailedCall();
        }
        Grouping before = grouping;
        grouping = draftGrouping;
        draftGrouping = before;
        return grouping.size;
    }

    // ---- what is there to see

    public long answer() {
        return latestTold;
    }

    public long groups(int k, int what) {
        return grouping.tellOf(k, what);
    }

    public int count(int what) {
        switch (what) {
            case 0: return thingCount;
            case 1: return scales.size;
            case 2: return sieves.size;
            case 3: return orders.size;
            case 4: return listLength;
            case 5: return grouping.size;
            case 6: return tally.begun;
            case 7: return tally.begunEver;
            case 8: return tally.met;
            case 9: return tally.failedCalls;
            case 10: return tally.latestFailure;
            default: return BAD;
        }
    }

    // ---- tests of numbers

    private boolean isThing(int number) {
        return number >= 0 && number < thingCount;
    }

    private static boolean isColumn(int number) {
        return number >= 0 && number < COLUMNS;
    }

    private static boolean isPlaceOfRow(long number) {
        return number >= 0 && number < ROW_ITEMS;
    }

    private static int cellOf(int thing, int column) {
        return thing * COLUMNS + column;
    }

    private boolean canMakeScale(int kind, int a, int b) {
        switch (kind) {
            case SCALE_COLUMN:
                return isColumn(a);
            case SCALE_SUM:
            case SCALE_TIMES:
            case SCALE_BY:
            case SCALE_LESS:
                return scales.has(a) && scales.has(b);
            case SCALE_WHERE:
                return sieves.has(a) && scales.has(b);
            case SCALE_ITEM:
                return scales.has(a);
            case SCALE_HELD:
                return isPlaceOfRow(a);
            case SCALE_NOW:
                return scales.has(a) && isThing(b);
            case SCALE_NUMBERS:
            case SCALE_TIMES_ASKED:
            case SCALE_NOTHING:
                return true;
            default:
                return false;
        }
    }

    private boolean canMakeSieve(int kind, int a, int b) {
        switch (kind) {
            case SIEVE_ABOVE:
            case SIEVE_LIKE:
                return scales.has(a) && scales.has(b);
            case SIEVE_NOT:
            case SIEVE_SAFE:
                return sieves.has(a);
            case SIEVE_BOTH:
            case SIEVE_EITHER:
                return sieves.has(a) && sieves.has(b);
            case SIEVE_ALL:
            case SIEVE_EACH:
            case SIEVE_FIRST:
            case SIEVE_NOTHING:
                return true;
            default:
                return false;
        }
    }

    private boolean canMakeOrder(int kind, int a, int b) {
        switch (kind) {
            case ORDER_RISING:
                return scales.has(a);
            case ORDER_TURNED:
                return orders.has(a);
            case ORDER_THEN:
                return orders.has(a) && orders.has(b);
            case ORDER_BEFORE:
                return sieves.has(a);
            case ORDER_BY_NUMBER:
            case ORDER_NOTHING:
                return true;
            default:
                return false;
        }
    }

    // ---- parts of calls

    private int makeNow(int scale, int thing) {
        if (!tally.opensCall()) {
            return FULL;
        }
        long told = askScale(scale, thing);
        if (tally.hasFailure()) {
            return tally.endFailedCall();
        }
        return scales.make(SCALE_NOW, scale, thing, told);
    }

    private void takeDraft(int length) {
        System.arraycopy(draft, 0, listed, 0, length);
        listLength = length;
    }

    /** Moves a thing of the draft ahead, as far as the order wants: how often it went. */
    private int moveForward(int order, int from) {
        int mover = draft[from];
        int place = from;
        while (place > 0 && askOrder(order, draft[place - 1], mover) == 1) {
            draft[place] = draft[place - 1];
            place--;
        }
        draft[place] = mover;
        return from - place;
    }

    // ---- askings

    private long askScale(int scale, int thing) {
        if (!tally.beginsAsking()) {
            return 0;
        }
        int a = scales.a[scale];
        int b = scales.b[scale];
        switch (scales.kind[scale]) {
            case SCALE_COLUMN:
                return cells[cellOf(thing, a)];
            case SCALE_NUMBERS:
                return (long) a + b;
            case SCALE_SUM:
                return askScale(a, thing) + askScale(b, thing);
            case SCALE_TIMES:
                return askScale(a, thing) * askScale(b, thing);
            case SCALE_BY:
                return quotient(askScale(a, thing), askScale(b, thing));
            case SCALE_LESS:
                return Math.min(askScale(a, thing), askScale(b, thing));
            case SCALE_WHERE:
                return askSieve(a, thing) ? askScale(b, thing) : 0;
            case SCALE_ITEM:
                return itemAt(askScale(a, thing));
            case SCALE_HELD:
            case SCALE_NOW:
                return scales.kept[scale];
            case SCALE_TIMES_ASKED:
                return (scales.countAsked(scale) - 1) * a + b;
            default:
                tally.fail(NONE);
                return 0;
        }
    }

    private boolean askSieve(int sieve, int thing) {
        if (!tally.beginsAsking()) {
            return false;
        }
        int a = sieves.a[sieve];
        int b = sieves.b[sieve];
        switch (sieves.kind[sieve]) {
            case SIEVE_ALL:
                return true;
            case SIEVE_ABOVE:
                return askScale(a, thing) > askScale(b, thing);
            case SIEVE_LIKE:
                return askScale(a, thing) == askScale(b, thing);
            case SIEVE_NOT:
                return !askSieve(a, thing);
            case SIEVE_BOTH:
                return askSieve(a, thing) && askSieve(b, thing);
            case SIEVE_EITHER:
                return askSieve(a, thing) || askSieve(b, thing);
            case SIEVE_EACH:
                return sieves.countAsked(sieve) % Math.max(a, 1) == 0;
            case SIEVE_FIRST:
                return thing < a;
            case SIEVE_SAFE:
                return askSafely(a, thing);
            default:
                tally.fail(NONE);
                return false;
        }
    }

    /** Answers -1, 0 or 1: x comes first, neither, y does. */
    private int askOrder(int order, int x, int y) {
        if (!tally.beginsAsking()) {
            return 0;
        }
        int a = orders.a[order];
        int b = orders.b[order];
        switch (orders.kind[order]) {
            case ORDER_RISING:
                return lesserFirst(askScale(a, x), askScale(a, y));
            case ORDER_TURNED:
                return -askOrder(a, x, y);
            case ORDER_THEN:
                return askThen(a, b, x, y);
            case ORDER_BEFORE:
                return lesserFirst(rankBySieve(a, x), rankBySieve(a, y));
            case ORDER_BY_NUMBER:
                return lesserFirst(x, y);
            default:
                tally.fail(NONE);
                return 0;
        }
    }

    private boolean askSafely(int sieve, int thing) {
        boolean holds = askSieve(sieve, thing);
        return !tally.meetsFailure() && holds;
    }

    private int askThen(int order, int nextOrder, int x, int y) {
        int first = askOrder(order, x, y);
        return first != 0 ? first : askOrder(nextOrder, x, y);
    }

    private int rankBySieve(int sieve, int thing) {
        return askSieve(sieve, thing) ? 0 : 1;
    }

    private static int lesserFirst(long ofX, long ofY) {
        if (ofX == ofY) {
            return 0;
        }
        return ofX < ofY ? -1 : 1;
    }

    private long quotient(long dividend, long divisor) {
        if (divisor == 0) {
            tally.fail(ZERO);
            return 0;
        }
        return dividend / divisor;
    }

    private long itemAt(long place) {
        if (!isPlaceOfRow(place)) {
            tally.fail(INDEX);
            return 0;
        }
        return row[(int) place];
    }

    /** The scales, the sieves or the orders, by their numbers. */
    private static final class Shelf {
        static final int MOST = 24;

        final int[] kind = new int[MOST];
        final int[] a = new int[MOST];
        final int[] b = new int[MOST];
        /** What was there when it was made, or, of those that count it, how often it was asked. */
        final long[] kept = new long[MOST];
        int size = 0;

        boolean has(int number) {
            return number >= 0 && number < size;
        }

        boolean isFull() {
            return size >= MOST;
        }

        int make(int newKind, int newA, int newB, long newKept) {
            int number = size;
            kind[number] = newKind;
            a[number] = newA;
            b[number] = newB;
            kept[number] = newKept;
            size++;
            return number;
        }

        long countAsked(int number) {
            kept[number]++;
            return kept[number];
        }
    }

    /** Groups of things by a key, in the order in which their keys came. */
    private static final class Grouping {
        final long[] key = new long[MOST_THINGS];
        final int[] members = new int[MOST_THINGS];
        final long[] total = new long[MOST_THINGS];
        final int[] first = new int[MOST_THINGS];
        int size = 0;

        void clear() {
            size = 0;
        }

        /** Each thing comes once at most, so there are never more groups than things. */
        void add(long itsKey, long value, int thing) {
            int k = placeOf(itsKey);
            if (k == size) {
                key[k] = itsKey;
                members[k] = 0;
                total[k] = 0;
                first[k] = thing;
                size++;
            }
            members[k]++;
            total[k] += value;
        }

        long tellOf(int k, int what) {
            if (k < 0 || k >= size) {
                return 0;
            }
            switch (what) {
                case 0: return key[k];
                case 1: return members[k];
                case 2: return total[k];
                case 3: return first[k];
                default: return 0;
            }
        }

        private int placeOf(long itsKey) {
            for (int k = 0; k < size; k++) {
                if (key[k] == itsKey) {
                    return k;
                }
            }
            return size;
        }
    }

    /** Counts the askings and the failures, and holds the failure that stands in a call. */
    private static final class Tally {
        static final int MOST_ASKINGS = 2000;
        static final int MOST_MET = 2000;
        static final int NO_FAILURE = 0;

        int begun = 0;
        int begunEver = 0;
        int met = 0;
        int failedCalls = 0;
        int latestFailure = NO_FAILURE;
        private int standing = NO_FAILURE;

        /** False: so many failures were met that no call may ask any more. */
        boolean opensCall() {
            if (met >= MOST_MET) {
                return false;
            }
            begun = 0;
            standing = NO_FAILURE;
            return true;
        }

        boolean beginsAsking() {
            if (hasFailure()) {
                return false;
            }
            if (begun >= MOST_ASKINGS) {
                fail(SPENT);
                return false;
            }
            begun++;
            begunEver++;
            return true;
        }

        boolean hasFailure() {
            return standing != NO_FAILURE;
        }

        /** The first failure is the one: what runs out behind it has values that mean nothing. */
        void fail(int failure) {
            if (!hasFailure()) {
                standing = failure;
            }
        }

        /** Ends the failure that stands, if a sieve may: true if there was such a one. */
        boolean meetsFailure() {
            if (!hasFailure() || standing == SPENT) {
                return false;
            }
            standing = NO_FAILURE;
            met++;
            return true;
        }

        int endFailedCall() {
            met++;
            failedCalls++;
            latestFailure = standing;
            return FAILED - standing;
        }
    }
}
