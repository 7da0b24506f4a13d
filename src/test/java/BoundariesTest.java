import java.util.TreeSet;

/**
 * The boundary cases: each sentence of the document that names one, and each part of it that can
 * be broken alone, has a test of its own here, which bears its words. They come in the document's
 * order. No desk gets more calls than the 512 that the document allows, but where that sentence
 * itself is tested.
 */
public final class BoundariesTest {
    private static final int BAD = -1, FULL = -2;
    private static final int ZERO = -11, INDEX = -12, NONE = -13, SPENT = -14;
    private static final int MANY = Integer.MAX_VALUE, LOW = Integer.MIN_VALUE;
    private static final long MOST = Long.MAX_VALUE, LEAST = Long.MIN_VALUE;
    private static final int[] FAR = {MANY, MANY - 1, LOW, LOW + 1, 1 << 16, -(1 << 16), 1 << 30};

    private static int wrong = 0;
    private static int sentences = 0;
    private static String sentence = "";
    private static final TreeSet<String> broken = new TreeSet<>();

    public static void main(String[] args) {
        terms();
        scales();
        sieves();
        orders();
        failures();
        answers();
        promises1To5();
        promises6To8();
        promises9To12();
        promises13To15();
        promises16To18();
        for (String one : broken) {
            System.out.println("broken: " + one);
        }
        System.out.println(sentences + " sentences: "
                + (wrong == 0 ? "all answers are as due" : wrong + " answers are not as due"));
        if (wrong != 0) {
            System.exit(1);
        }
    }

    private static void terms() {
        fiveHundredAndTwelveCalls();
        fortyThingsOfThreeColumns();
        rowOfEightItems();
        listHasEachThingOnce();
        listHasNoneAtFirst();
        sumsRunOver();
        productsRunOver();
        quotientRunsOver();
        twentyFourOfEach();
        numberedFromZeroEach();
        madeOfWhatIsMadeAlready();
        askingIsEachOneBegun();
        askedInTheOrderTold();
        notToldIsNotAsked();
    }

    private static void scales() {
        columnOfThing();
        numbersTogether();
        timesNothing();
        cutTowardZero();
        byZero();
        lesserOfTwo();
        whereElseNothing();
        itemOutsideTheRow();
        itemWhenAsked();
        heldWhenMade();
        nowWhenMade();
        timesAskedAlready();
        scaleNothing();
    }

    private static void sieves() {
        allHold();
        aboveIsNotLike();
        likeIsTheSame();
        notOfWhatHolds();
        bothOrNot();
        eitherOrNot();
        eachTime();
        eachBelowOne();
        firstIsBelow();
        safeMeets();
        safeButSpent();
        sieveNothing();
    }

    private static void orders() {
        risingOfThoseAlike();
        risingOfFarNumbers();
        risingAsksXThenY();
        turnedOfNeither();
        thenOnlyIfNeither();
        beforeOfThoseAlike();
        beforeAsksXThenY();
        byNumber();
        orderNothing();
    }

    private static void failures() {
        spentIsOneMore();
        spentInEachCall();
        spentIsOfOneCall();
        failureEndsTheCall();
        failureChangesNothing();
        failureLeavesCounts();
        metByTheSieveGoesOn();
        metBySievesAndByCalls();
    }

    private static void answers() {
        badBeforeFull();
        fullOfThoseMet();
        fullOfMoreThanThoseMet();
        fullOnlyOfCallsThatAsk();
        badChangesNothing();
        fullChangesNothing();
        failedIsTenLess();
    }

    private static void promises1To5() {
        newObject();
        thingComesBehind();
        thingFull();
        changeBad();
        getNone();
        itemBad();
    }

    private static void promises6To8() {
        scaleBadKind();
        scaleBadColumnOrPlace();
        scaleBadFirst();
        scaleBadSecond();
        scaleFreeNumbers();
        scaleFull();
        scaleNowFull();
        scaleNowFailed();
        sieveBadKind();
        sieveBadScales();
        sieveBadSieves();
        sieveFreeNumbers();
        sieveFull();
        orderBadKind();
        orderBadNumbers();
        orderFreeNumbers();
        orderFull();
    }

    private static void promises9To12() {
        allOfNone();
        allByNumbers();
        tellBad();
        tellOfWhatIsNotListed();
        siftOfNone();
        siftAllOrNone();
        siftInItsOrder();
        siftBad();
        sortOfNoneOrOne();
        sortFromTheSecondOn();
        sortToTheHead();
        sortLeavesThoseAlike();
        sortOfChangingOrder();
        sortBad();
    }

    private static void promises13To15() {
        sumOfNone();
        sumOfAll();
        sumBad();
        groupOfNone();
        groupOfOneOrOfEach();
        groupKeyThenOf();
        groupsBeforeAreGone();
        groupBad();
        answerAtFirst();
        answerOfWhatWasDone();
        answerOfNoOther();
    }

    private static void promises16To18() {
        listNone();
        groupsNone();
        groupsInTheOrderTheyCame();
        countBad();
        countOfLatestCall();
        countOfEver();
        countLatestFailure();
    }

    // ---- what the tests are made of

    /** A SieveDesk that tells when it is called more often than the document allows. */
    private static final class Desk {
        private final SieveDesk desk = new SieveDesk();
        private int calls = 0;

        private SieveDesk called() {
            calls++;
            if (calls == 513) {
                due("a 513th call in this test", 1, 0);
            }
            return desk;
        }

        int thing(long a, long b, long c) { return called().thing(a, b, c); }
        int change(int thing, int column, long v) { return called().change(thing, column, v); }
        long get(int thing, int column) { return called().get(thing, column); }
        int item(int i, long v) { return called().item(i, v); }
        int scale(int kind, int a, int b) { return called().scale(kind, a, b); }
        int sieve(int kind, int a, int b) { return called().sieve(kind, a, b); }
        int order(int kind, int a, int b) { return called().order(kind, a, b); }
        int all() { return called().all(); }
        int tell(int scale, int thing) { return called().tell(scale, thing); }
        int sift(int sieve) { return called().sift(sieve); }
        int sort(int order) { return called().sort(order); }
        int sum(int scale) { return called().sum(scale); }
        int group(int key, int of) { return called().group(key, of); }
        long answer() { return called().answer(); }
        int list(int place) { return called().list(place); }
        long groups(int k, int what) { return called().groups(k, what); }
        int count(int what) { return called().count(what); }
    }

    private static void says(String words) {
        sentence = words;
        sentences++;
    }

    private static void due(String call, long got, long want) {
        if (got != want) {
            wrong++;
            broken.add(sentence);
            System.out.println("\"" + sentence + "\": " + call + " answered " + got
                    + ", due is " + want);
        }
    }

    private static void dueSame(String when, String got, String want) {
        if (!got.equals(want)) {
            due(when + " changed " + want + " to " + got + ", so it", 1, 0);
        }
    }

    private static void dueList(Desk x, int... things) {
        due("count(4)", x.count(4), things.length);
        for (int i = 0; i < things.length; i++) {
            due("list(" + i + ")", x.list(i), things[i]);
        }
        due("list(" + things.length + ")", x.list(things.length), BAD);
    }

    private static void dueTold(Desk x, int scale, int thing, long want) {
        due("tell(" + scale + ", " + thing + ")", x.tell(scale, thing), 1);
        due("answer() of tell(" + scale + ", " + thing + ")", x.answer(), want);
    }

    private static void dueGroup(Desk x, int k, long key, long many, long sum, long first) {
        due("groups(" + k + ", 0)", x.groups(k, 0), key);
        due("groups(" + k + ", 1)", x.groups(k, 1), many);
        due("groups(" + k + ", 2)", x.groups(k, 2), sum);
        due("groups(" + k + ", 3)", x.groups(k, 3), first);
    }

    /** A desk whose things have these values as column 0, 0 as the others. */
    private static Desk deskOf(long... values) {
        Desk x = new Desk();
        for (long value : values) {
            x.thing(value, 0, 0);
        }
        return x;
    }

    /** A desk of one thing, scale 0 and 1 of which tell a and b. */
    private static Desk deskOfTwo(long a, long b) {
        Desk x = new Desk();
        x.thing(a, b, 0);
        x.scale(0, 0, 0);
        x.scale(0, 1, 0);
        return x;
    }

    private static int constant(Desk x, int number) {
        return x.scale(1, number, 0);
    }

    /** What of a desk can be seen: the counts that askings move are told by seenCounts. */
    private static String seen(Desk x) {
        StringBuilder all = new StringBuilder();
        for (int what = 0; what <= 5; what++) {
            all.append(x.count(what)).append(' ');
        }
        all.append("list");
        for (int i = 0; i < x.count(4); i++) {
            all.append(' ').append(x.list(i));
        }
        all.append(" groups");
        for (int k = 0; k < x.count(5); k++) {
            for (int what = 0; what <= 3; what++) {
                all.append(' ').append(x.groups(k, what));
            }
        }
        all.append(" cells");
        for (int i = 0; i < x.count(0); i++) {
            for (int column = 0; column <= 2; column++) {
                all.append(' ').append(x.get(i, column));
            }
        }
        return all.append(" answer ").append(x.answer()).toString();
    }

    private static String seenCounts(Desk x) {
        StringBuilder all = new StringBuilder();
        for (int what = 6; what <= 10; what++) {
            all.append(x.count(what)).append(' ');
        }
        return all.toString();
    }

    /** A new scale that tells 0, if item 0 of the row is 0, by that many askings; up to 2047. */
    private static int scaleAsking(Desk x, int askings) {
        int[] doubled = new int[11];
        int levels = 0;
        doubled[0] = constant(x, 0);
        while (levels < 10 && asksOf(levels + 1) <= askings) {
            levels++;
            doubled[levels] = x.scale(2, doubled[levels - 1], doubled[levels - 1]);
        }
        return scaleOf(x, doubled, levels, askings);
    }

    private static int asksOf(int level) {
        return (2 << level) - 1;
    }

    private static int scaleOf(Desk x, int[] doubled, int level, int askings) {
        if (asksOf(level) == askings) {
            return doubled[level];
        }
        if (askings == 2) {
            return oneMore(x, doubled[0]);
        }
        if (asksOf(level) > askings - 2) {
            return scaleOf(x, doubled, level - 1, askings);
        }
        return x.scale(2, doubled[level], scaleOf(x, doubled, level, askings - 1 - asksOf(level)));
    }

    /** A scale ITEM of one that tells 0: one asking more. */
    private static int oneMore(Desk x, int scale) {
        return x.scale(7, scale, 0);
    }

    /** A desk of 2 things, scale 0 tells 1, sieve 0 NOTHING, on which that many failures were met. */
    private static Desk deskThatMet(int failures) {
        Desk x = deskOf(5, 6);
        constant(x, 1);
        x.sieve(9, 0, 0);
        x.order(4, 0, 0);
        x.scale(11, 0, 0);
        int meets = x.sieve(8, 0, 0);
        int left = failures;
        for (int many = 1; many <= 512; many *= 2) {
            int where = x.scale(6, meets, 0);
            if ((failures & many) != 0 || many == 512) {
                for (int times = many == 512 ? left / 512 : 1; times > 0; times--) {
                    dueTold(x, where, 0, 0);
                    left -= many;
                }
            }
            meets = x.sieve(5, meets, meets);
        }
        due("the failures met so far", x.count(8), failures);
        return x;
    }

    // ---- what it is, terms

    private static void fiveHundredAndTwelveCalls() {
        says("An object is used for at most 512 calls after it has been made");
        SieveDesk x = new SieveDesk();
        x.thing(3, 4, 5);
        x.scale(10, 1, 0);
        for (int call = 3; call <= 510; call++) {
            due("tell, call " + call, x.tell(0, 0), 1);
        }
        due("answer(), call 511", x.answer(), 507);
        due("tell, call 512", x.tell(0, 0), 1);
        // Later answers are free, but still no call may throw.
        for (int call = 513; call < 3000; call++) {
            x.thing(call, 0, 0);
            x.scale(call % 12, 0, 0);
            x.sieve(call % 10, 0, 0);
            x.order(call % 6, 0, 0);
            x.sift(call % 24);
            x.all();
            x.sort(call % 24);
            x.group(call % 24, 0);
            x.sum(call % 24);
        }
    }

    private static void fortyThingsOfThreeColumns() {
        says("THINGS 0, 1, .. (40 at most) have three COLUMNS 0 .. 2, longs.");
        Desk x = new Desk();
        for (int i = 0; i < 40; i++) {
            due("thing " + i, x.thing(LEAST + i, -i, MOST - i), i);
        }
        due("thing 40", x.thing(0, 0, 0), FULL);
        for (int i = 0; i < 40; i++) {
            due("get(" + i + ", 0)", x.get(i, 0), LEAST + i);
            due("get(" + i + ", 1)", x.get(i, 1), -i);
            due("get(" + i + ", 2)", x.get(i, 2), MOST - i);
        }
    }

    private static void rowOfEightItems() {
        says("THE ROW has items 0 .. 7, longs, 0 at first.");
        Desk x = deskOf(0);
        for (int i = 0; i < 8; i++) {
            dueTold(x, x.scale(8, i, 0), 0, 0);
        }
        for (int i = 0; i < 8; i++) {
            due("item(" + i + ")", x.item(i, i % 2 == 0 ? LEAST + i : MOST - i), 1);
        }
        for (int i = 0; i < 8; i++) {
            dueTold(x, x.scale(8, i, 0), 0, i % 2 == 0 ? LEAST + i : MOST - i);
        }
        due("item(8)", x.item(8, 1), BAD);
        due("scale(8, 8, 0)", x.scale(8, 8, 0), BAD);
    }

    private static void listHasEachThingOnce() {
        says("THE LIST has THINGS, each once at most");
        Desk x = deskOf(1, 2, 3);
        x.all();
        dueList(x, 0, 1, 2);
        x.sieve(7, 1, 0);
        x.sift(0);
        x.thing(4, 0, 0);
        dueList(x, 0, 3);
        x.all();
        x.all();
        dueList(x, 0, 1, 2, 3);
        x.sieve(0, 0, 0);
        due("sift", x.sift(1), 4);
        dueList(x, 0, 1, 2, 3);
    }

    private static void listHasNoneAtFirst() {
        says("none at first");
        Desk x = new Desk();
        due("count(4)", x.count(4), 0);
        due("list(0)", x.list(0), BAD);
        due("all()", x.all(), 0);
        due("list(0)", x.list(0), BAD);
    }

    private static void sumsRunOver() {
        says("All runs over: SUM, sum(), the sums of GROUPS");
        Desk x = new Desk();
        x.thing(MOST, 1, 0);
        x.thing(LEAST, -1, 0);
        x.thing(MOST, MOST, 0);
        x.thing(LEAST, LEAST, 0);
        x.scale(0, 0, 0);
        x.scale(0, 1, 0);
        int sum = x.scale(2, 0, 1);
        dueTold(x, sum, 0, LEAST);
        dueTold(x, sum, 1, MOST);
        dueTold(x, sum, 2, -2);
        dueTold(x, sum, 3, 0);
        x.sieve(7, 1, 0);
        x.sieve(2, 0, 1);
        x.sieve(5, 0, 1);
        due("sift", x.sift(2), 3);
        due("sum", x.sum(0), 1);
        due("answer()", x.answer(), MOST + MOST + LEAST);
        due("group", x.group(constant(x, 1), 0), 1);
        dueGroup(x, 0, 1, 3, MOST + MOST + LEAST, 0);
    }

    private static void productsRunOver() {
        says("All runs over: TIMES");
        long[][] cases = {{MOST, 2, -2}, {LEAST, -1, LEAST}, {LEAST, 2, 0}, {LEAST, LEAST, 0},
            {MOST, MOST, 1}, {1L << 32, 1L << 32, 0}, {1L << 32, 1L << 31, LEAST}, {MOST, 0, 0}};
        for (long[] one : cases) {
            Desk x = deskOfTwo(one[0], one[1]);
            dueTold(x, x.scale(3, 0, 1), 0, one[2]);
            dueTold(x, x.scale(3, 1, 0), 0, one[2]);
        }
    }

    private static void quotientRunsOver() {
        says("All runs over: BY, of the least long by -1");
        Desk x = deskOfTwo(LEAST, -1);
        dueTold(x, x.scale(4, 0, 1), 0, LEAST);
        x.change(0, 1, 1);
        dueTold(x, 2, 0, LEAST);
        x.change(0, 0, MOST);
        x.change(0, 1, -1);
        dueTold(x, 2, 0, -MOST);
    }

    private static void twentyFourOfEach() {
        says("24 at most of each");
        Desk x = deskOf(1, 2);
        for (int i = 0; i < 24; i++) {
            due("scale", constant(x, i), i);
            due("sieve", x.sieve(7, i, 0), i);
            due("order", x.order(4, 0, 0), i);
        }
        due("scale 24", constant(x, 0), FULL);
        due("sieve 24", x.sieve(0, 0, 0), FULL);
        due("order 24", x.order(4, 0, 0), FULL);
        dueTold(x, 23, 0, 23);
        due("sift(23)", x.sift(23), 2);
        due("sort(23)", x.sort(23), 0);
        due("tell(24, 0)", x.tell(24, 0), BAD);
        due("sift(24)", x.sift(24), BAD);
        due("sort(24)", x.sort(24), BAD);
    }

    private static void numberedFromZeroEach() {
        says("SCALES, SIEVES, ORDERS are numbered from 0 each");
        Desk x = deskOf(1);
        for (int i = 0; i < 5; i++) {
            due("scale", constant(x, 0), i);
        }
        for (int i = 0; i < 3; i++) {
            due("sieve", x.sieve(0, 0, 0), i);
        }
        due("order", x.order(4, 0, 0), 0);
        due("scale", constant(x, 0), 5);
        due("sieve", x.sieve(0, 0, 0), 3);
        due("order", x.order(4, 0, 0), 1);
    }

    private static void madeOfWhatIsMadeAlready() {
        says("those that they are made of are made already");
        Desk x = deskOf(1);
        due("a scale of itself", x.scale(7, 0, 0), BAD);
        due("a sieve of itself", x.sieve(3, 0, 0), BAD);
        due("an order of itself", x.order(1, 0, 0), BAD);
        constant(x, 1);
        due("a scale of the one before and itself", x.scale(2, 0, 1), BAD);
        due("a scale of a sieve that is still none", x.scale(6, 0, 0), BAD);
        x.sieve(0, 0, 0);
        x.order(4, 0, 0);
        due("a sieve of the one before and itself", x.sieve(4, 0, 1), BAD);
        due("an order of the one before and itself", x.order(2, 0, 1), BAD);
        due("a scale of those before", x.scale(6, 0, 0), 1);
        due("a sieve of those before", x.sieve(4, 0, 0), 1);
        due("an order of those before", x.order(2, 0, 0), 1);
    }

    private static void askingIsEachOneBegun() {
        says("An ASKING is each one that is begun (also by others).");
        Desk x = deskOf(0, 1);
        int one = constant(x, 1);
        x.tell(one, 0);
        due("count(6) of one", x.count(6), 1);
        int sum = x.scale(2, one, one);
        x.tell(sum, 0);
        due("count(6) of a SUM", x.count(6), 3);
        int like = x.sieve(2, sum, one);
        x.tell(x.scale(6, like, one), 0);
        due("count(6) of a WHERE that does not hold", x.count(6), 1 + 5);
        x.order(3, like, 0);
        x.order(1, 0, 0);
        x.sort(1);
        due("count(6) of a TURNED BEFORE", x.count(6), 2 + 5 + 5);
        int none = x.scale(11, 0, 0);
        x.tell(x.scale(2, one, none), 0);
        due("count(6): the one that fails was begun", x.count(6), 3);
        due("count(7)", x.count(7), 1 + 3 + 6 + 12 + 3);
        askingOfTheSameTwice();
    }

    private static void askingOfTheSameTwice() {
        Desk x = deskOf(0);
        int one = constant(x, 1);
        for (int kind = 2; kind <= 5; kind++) {
            x.tell(x.scale(kind, one, one), 0);
            due("count(6) of a scale " + kind + " of the same twice", x.count(6), 3);
        }
        int alike = x.sieve(2, one, one);
        due("sift", x.sift(alike), 1);
        due("count(6) of a sieve 2 of the same twice", x.count(6), 3);
        due("sift", x.sift(x.sieve(4, alike, alike)), 1);
        due("count(6) of a sieve 4 of the same twice", x.count(6), 7);
        due("sift", x.sift(x.sieve(5, x.sieve(1, one, one), x.sieve(1, one, one))), 0);
        due("count(6) of a sieve 5 of two alike", x.count(6), 7);
    }

    private static void askedInTheOrderTold() {
        says("It is asked in the order told");
        Desk x = deskOf(0);
        int none = x.scale(11, 0, 0);
        int index = x.scale(7, constant(x, -1), 0);
        for (int kind = 2; kind <= 5; kind++) {
            due("scale " + kind, x.tell(x.scale(kind, none, index), 0), NONE);
            due("count(6)", x.count(6), 2);
            due("scale " + kind, x.tell(x.scale(kind, index, none), 0), INDEX);
            due("count(6)", x.count(6), 3);
        }
        for (int kind = 1; kind <= 2; kind++) {
            due("sieve " + kind, x.sift(x.sieve(kind, none, index)), NONE);
            due("sieve " + kind, x.sift(x.sieve(kind, index, none)), INDEX);
        }
        int nothing = x.sieve(9, 0, 0);
        int likeIndex = x.sieve(2, index, index);
        for (int kind = 4; kind <= 5; kind++) {
            due("sieve " + kind, x.sift(x.sieve(kind, nothing, likeIndex)), NONE);
            due("sieve " + kind, x.sift(x.sieve(kind, likeIndex, nothing)), INDEX);
        }
        due("WHERE: the sieve first", x.tell(x.scale(6, nothing, index), 0), NONE);
    }

    private static void notToldIsNotAsked() {
        says("what is not told is not asked.");
        Desk x = deskOf(0, 0);
        int one = constant(x, 0);
        int none = x.scale(11, 0, 0);
        int yes = x.sieve(0, 0, 0);
        int nothing = x.sieve(9, 0, 0);
        dueTold(x, x.scale(7, one, none), 0, 0);
        dueTold(x, x.scale(8, 0, none), 0, 0);
        dueTold(x, x.scale(10, one, none), 0, none);
        due("NOT", x.sift(x.sieve(3, x.sieve(3, yes, nothing), nothing)), 2);
        due("count(6) of NOT NOT", x.count(6), 2 * 3);
        due("SAFE", x.sift(x.sieve(8, yes, nothing)), 2);
        due("count(8)", x.count(8), 0);
        due("FIRST", x.sift(x.sieve(7, 2, nothing)), 2);
        due("EACH", x.sift(x.sieve(6, 1, nothing)), 2);
        int byNumber = x.order(4, 0, 0);
        int nothingOrder = x.order(5, 0, 0);
        due("RISING", x.sort(x.order(0, one, none)), 0);
        due("TURNED", x.sort(x.order(1, byNumber, nothingOrder)), 1);
        due("BEFORE", x.sort(x.order(3, yes, nothing)), 0);
        due("BY NUMBER", x.sort(x.order(4, nothingOrder, nothingOrder)), 1);
        due("count(9)", x.count(9), 0);
    }

    // ---- scales

    private static void columnOfThing() {
        says("0 COLUMN a of it.");
        Desk x = new Desk();
        x.thing(1, 2, 3);
        x.thing(LEAST, 0, MOST);
        for (int column = 0; column <= 2; column++) {
            x.scale(0, column, 9);
            dueTold(x, column, 0, column + 1);
        }
        dueTold(x, 0, 1, LEAST);
        dueTold(x, 1, 1, 0);
        dueTold(x, 2, 1, MOST);
        x.change(1, 1, 77);
        dueTold(x, 1, 1, 77);
    }

    private static void numbersTogether() {
        says("1 a and b together.");
        Desk x = deskOf(0);
        int[][] cases = {{0, 0}, {2, 3}, {-5, 5}, {MANY, 0}, {LOW, 0}, {0, LOW}, {MANY, LOW}};
        for (int[] one : cases) {
            dueTold(x, x.scale(1, one[0], one[1]), 0, (long) one[0] + one[1]);
        }
        // A scale tells a long, so two ints together do not run over.
        dueTold(x, x.scale(1, MANY, MANY), 0, 4294967294L);
        dueTold(x, x.scale(1, LOW, LOW), 0, -4294967296L);
    }

    private static void timesNothing() {
        says("3 TIMES: SCALE a's times SCALE b's: both are asked, also where one tells 0");
        Desk x = deskOfTwo(0, 5);
        dueTold(x, x.scale(3, 0, 1), 0, 0);
        due("count(6)", x.count(6), 3);
        dueTold(x, x.scale(3, 1, 0), 0, 0);
        due("count(6)", x.count(6), 3);
        due("0 times NOTHING", x.tell(x.scale(3, 0, x.scale(11, 0, 0)), 0), NONE);
    }

    private static void cutTowardZero() {
        says("4 BY: SCALE a's by SCALE b's, cut toward 0");
        long[][] cases = {{7, 2, 3}, {-7, 2, -3}, {7, -2, -3}, {-7, -2, 3}, {1, 2, 0}, {-1, 2, 0},
            {1, -2, 0}, {0, -5, 0}, {MOST, LEAST, 0}, {LEAST, MOST, -1}, {LEAST, LEAST, 1},
            {LEAST, 2, -(1L << 62)}, {6, 3, 2}};
        for (long[] one : cases) {
            Desk x = deskOfTwo(one[0], one[1]);
            dueTold(x, x.scale(4, 0, 1), 0, one[2]);
        }
    }

    private static void byZero() {
        says("(ZERO)");
        for (long dividend : new long[] {0, 1, -1, MOST, LEAST}) {
            Desk x = deskOfTwo(dividend, 0);
            x.scale(4, 0, 1);
            due(dividend + " by 0", x.tell(2, 0), ZERO);
            due("count(6)", x.count(6), 3);
            due("count(10)", x.count(10), 1);
        }
        Desk x = deskOfTwo(1L << 32, 1L << 32);
        dueTold(x, x.scale(4, 0, 1), 0, 1);
        dueTold(x, x.scale(4, x.scale(2, 0, 0), 1), 0, 2);
    }

    private static void lesserOfTwo() {
        says("5 LESS: the lesser of SCALE a's and SCALE b's.");
        long[][] cases = {{1, 2, 1}, {2, 1, 1}, {3, 3, 3}, {LEAST, MOST, LEAST},
            {MOST, LEAST, LEAST}, {-1, 1L << 32, -1}, {1L << 32, 1, 1}};
        for (long[] one : cases) {
            Desk x = deskOfTwo(one[0], one[1]);
            dueTold(x, x.scale(5, 0, 1), 0, one[2]);
            due("count(6): both are asked", x.count(6), 3);
        }
    }

    private static void whereElseNothing() {
        says("6 WHERE: SCALE b's, if SIEVE a holds for it; else 0.");
        Desk x = deskOf(8, 9);
        int column = x.scale(0, 0, 0);
        int none = x.scale(11, 0, 0);
        int first = x.sieve(7, 1, 0);
        int where = x.scale(6, first, column);
        dueTold(x, where, 0, 8);
        due("count(6)", x.count(6), 3);
        dueTold(x, where, 1, 0);
        due("count(6): the scale is not asked", x.count(6), 2);
        int whereNone = x.scale(6, first, none);
        due("where it holds", x.tell(whereNone, 0), NONE);
        dueTold(x, whereNone, 1, 0);
    }

    private static void itemOutsideTheRow() {
        says("whose place SCALE a tells (INDEX).");
        Desk x = deskOf(0, 7, -1, 8);
        x.scale(0, 0, 0);
        x.scale(7, 0, 0);
        x.item(0, 100);
        x.item(7, 107);
        dueTold(x, 1, 0, 100);
        dueTold(x, 1, 1, 107);
        due("place -1", x.tell(1, 2), INDEX);
        due("place 8", x.tell(1, 3), INDEX);
        due("count(6)", x.count(6), 2);
        for (long place : new long[] {MOST, LEAST, 1L << 32, (1L << 32) + 7, -(1L << 32), -8}) {
            x.change(0, 0, place);
            due("place " + place, x.tell(1, 0), INDEX);
        }
        due("count(10)", x.count(10), 2);
    }

    private static void itemWhenAsked() {
        says("7 ITEM: the item of THE ROW, as it is when it is asked");
        Desk x = deskOf(3);
        x.item(3, 5);
        x.scale(0, 0, 0);
        x.scale(7, 0, 0);
        dueTold(x, 1, 0, 5);
        x.item(3, 6);
        dueTold(x, 1, 0, 6);
        x.item(4, 9);
        x.change(0, 0, 4);
        dueTold(x, 1, 0, 9);
    }

    private static void heldWhenMade() {
        says("8 HELD: the item a of THE ROW as it was when it was made.");
        Desk x = deskOf(0);
        x.item(0, 10);
        x.item(7, MOST);
        int first = x.scale(8, 0, 0);
        int last = x.scale(8, 7, 0);
        x.item(0, 20);
        x.item(7, LEAST);
        dueTold(x, first, 0, 10);
        dueTold(x, last, 0, MOST);
        dueTold(x, x.scale(8, 7, 0), 0, LEAST);
        dueTold(x, x.scale(8, 0, 0), 0, 20);
    }

    private static void nowWhenMade() {
        says("9 NOW: what SCALE a told of THING b when it was made.");
        Desk x = deskOf(MOST, LEAST);
        x.scale(0, 0, 0);
        int now0 = x.scale(9, 0, 0);
        int now1 = x.scale(9, 0, 1);
        x.change(0, 0, 1);
        x.change(1, 0, 2);
        dueTold(x, now0, 1, MOST);
        dueTold(x, now1, 0, LEAST);
        due("count(6): scale 0 is not asked again", x.count(6), 1);
        dueTold(x, x.scale(9, now1, 0), 0, LEAST);
        int counting = x.scale(10, 1, 0);
        int nowCounting = x.scale(9, counting, 0);
        dueTold(x, nowCounting, 0, 0);
        dueTold(x, nowCounting, 0, 0);
        dueTold(x, counting, 0, 1);
    }

    private static void timesAskedAlready() {
        says("10 TIMES ASKED: how often this one was asked already, times a, and b.");
        Desk x = deskOf(0, 0);
        int up = x.scale(10, 1, 0);
        int down = x.scale(10, -2, 100);
        dueTold(x, up, 0, 0);
        dueTold(x, up, 1, 1);
        dueTold(x, down, 0, 100);
        dueTold(x, down, 1, 98);
        dueTold(x, up, 0, 2);
        dueTold(x, x.scale(2, up, up), 0, 3 + 4);
        dueTold(x, x.scale(10, 0, LOW), 0, LOW);
        int most = x.scale(10, MANY, MANY);
        dueTold(x, most, 0, MANY);
        dueTold(x, most, 0, 2L * MANY);
        int least = x.scale(10, LOW, LOW);
        dueTold(x, least, 0, LOW);
        dueTold(x, least, 0, 2L * LOW);
        dueTold(x, least, 0, 3L * LOW);
    }

    private static void scaleNothing() {
        says("11 NOTHING: there is nothing (NONE).");
        Desk x = deskOf(0);
        int none = x.scale(11, 0, 0);
        due("tell", x.tell(none, 0), NONE);
        due("count(6)", x.count(6), 1);
        due("scale 9 of it", x.scale(9, none, 0), NONE);
        due("sum", x.sum(none), NONE);
        due("group by it", x.group(none, none), NONE);
        due("count(10)", x.count(10), 3);
        due("count(9)", x.count(9), 4);
    }

    // ---- sieves

    private static void allHold() {
        says("SIEVES: 0 ALL.");
        Desk x = deskOf(LEAST, 0, MOST);
        x.sieve(0, 0, 0);
        due("sift", x.sift(0), 3);
        dueList(x, 0, 1, 2);
    }

    private static void aboveIsNotLike() {
        says("1 ABOVE: SCALE a's is above SCALE b's.");
        long[][] cases = {{1, 0, 1}, {0, 1, 0}, {5, 5, 0}, {MOST, LEAST, 1}, {LEAST, MOST, 0},
            {LEAST, LEAST, 0}, {1L << 32, 0, 1}, {0, -(1L << 32), 1}, {-1, 0, 0}};
        for (long[] one : cases) {
            Desk x = deskOfTwo(one[0], one[1]);
            due(one[0] + " above " + one[1], x.sift(x.sieve(1, 0, 1)), one[2]);
            due("count(6)", x.count(6), 3);
        }
    }

    private static void likeIsTheSame() {
        says("2 LIKE: they are the same.");
        long[][] cases = {{0, 0, 1}, {5, 6, 0}, {6, 5, 0}, {MOST, MOST, 1}, {LEAST, LEAST, 1},
            {MOST, LEAST, 0}, {1L << 32, 0, 0}, {200, 200, 1}, {-1, 1, 0}};
        for (long[] one : cases) {
            Desk x = deskOfTwo(one[0], one[1]);
            due(one[0] + " like " + one[1], x.sift(x.sieve(2, 0, 1)), one[2]);
            due("count(6)", x.count(6), 3);
        }
    }

    private static void notOfWhatHolds() {
        says("3 NOT: SIEVE a does not hold.");
        Desk x = deskOf(0, 0, 0);
        int first = x.sieve(7, 1, 0);
        int others = x.sieve(3, first, 0);
        due("NOT", x.sift(others), 2);
        dueList(x, 1, 2);
        due("count(6)", x.count(6), 6);
        due("NOT NOT", x.sift(x.sieve(3, others, 0)), 0);
        x.all();
        due("NOT of ALL", x.sift(x.sieve(3, x.sieve(0, 0, 0), 0)), 0);
    }

    private static void bothOrNot() {
        says("4 BOTH: SIEVE a, and, if that holds, SIEVE b.");
        Desk x = deskOf(0);
        int yes = x.sieve(0, 0, 0);
        int no = x.sieve(3, yes, 0);
        int none = x.sieve(9, 0, 0);
        due("yes, yes", x.sift(x.sieve(4, yes, yes)), 1);
        due("count(6)", x.count(6), 3);
        due("yes, no", x.sift(x.sieve(4, yes, no)), 0);
        x.all();
        due("no, and b is not asked", x.sift(x.sieve(4, no, none)), 0);
        due("count(6)", x.count(6), 3);
        x.all();
        due("yes, and b is asked", x.sift(x.sieve(4, yes, none)), NONE);
        due("no, yes", x.sift(x.sieve(4, no, yes)), 0);
    }

    private static void eitherOrNot() {
        says("5 EITHER: SIEVE a, or, if that does not hold, SIEVE b.");
        Desk x = deskOf(0);
        int yes = x.sieve(0, 0, 0);
        int no = x.sieve(3, yes, 0);
        int none = x.sieve(9, 0, 0);
        due("yes, and b is not asked", x.sift(x.sieve(5, yes, none)), 1);
        due("count(6)", x.count(6), 2);
        due("no, and b is asked", x.sift(x.sieve(5, no, none)), NONE);
        due("no, yes", x.sift(x.sieve(5, no, yes)), 1);
        due("count(6)", x.count(6), 4);
        due("no, no", x.sift(x.sieve(5, no, no)), 0);
    }

    private static void eachTime() {
        says("6 EACH: every a-th time that this one is asked, not the others");
        Desk x = deskOf(0, 0, 0, 0, 0);
        int third = x.sieve(6, 3, 0);
        due("asked 1 to 5", x.sift(third), 1);
        dueList(x, 2);
        x.all();
        due("asked 6 to 10", x.sift(third), 2);
        dueList(x, 0, 3);
        x.all();
        int first = x.sieve(6, 1, 0);
        due("every time", x.sift(first), 5);
        due("of MANY", x.sift(x.sieve(6, MANY, 0)), 0);
        x.all();
        int second = x.sieve(6, 2, 0);
        due("twice each, so the second time holds", x.sift(x.sieve(5, second, second)), 5);
        due("another of the same kind counts for itself", x.sift(x.sieve(6, 2, 0)), 2);
        dueList(x, 1, 3);
    }

    private static void eachBelowOne() {
        says("(a below 1: as 1)");
        for (int a : new int[] {1, 0, -1, -2, -MANY, LOW}) {
            Desk x = deskOf(0, 0, 0);
            x.sieve(6, a, 0);
            due("EACH " + a, x.sift(0), 3);
            due("EACH " + a + " again", x.sift(0), 3);
        }
    }

    private static void firstIsBelow() {
        says("7 FIRST: its number is below a.");
        Desk x = deskOf(0, 0, 0);
        int[][] cases = {{0, 0}, {1, 1}, {2, 2}, {3, 3}, {4, 3}, {-1, 0}, {MANY, 3}, {LOW, 0}};
        for (int[] one : cases) {
            x.all();
            due("FIRST " + one[0], x.sift(x.sieve(7, one[0], 0)), one[1]);
        }
        x.all();
        x.order(1, x.order(4, 0, 0), 0);
        x.sort(1);
        due("its number, not its place", x.sift(x.sieve(7, 1, 0)), 1);
        dueList(x, 0);
    }

    private static void safeMeets() {
        says("8 SAFE: SIEVE a; it does not hold, if that FAILS");
        Desk x = deskOf(0);
        int yes = x.sieve(0, 0, 0);
        int none = x.sieve(9, 0, 0);
        int column = x.scale(0, 0, 0);
        int byZero = x.scale(4, column, column);
        int index = x.scale(7, constant(x, 8), 0);
        due("SAFE of what holds", x.sift(x.sieve(8, yes, 0)), 1);
        due("SAFE of what does not", x.sift(x.sieve(8, x.sieve(3, yes, 0), 0)), 0);
        due("count(8)", x.count(8), 0);
        int[] failing = {none, x.sieve(2, byZero, byZero), x.sieve(1, index, column),
            x.sieve(3, none, 0), x.sieve(5, none, yes), x.sieve(5, x.sieve(3, none, 0), yes)};
        for (int i = 0; i < failing.length; i++) {
            x.all();
            due("SAFE of failing sieve " + i, x.sift(x.sieve(8, failing[i], 0)), 0);
            due("count(8)", x.count(8), i + 1);
        }
        due("count(9)", x.count(9), 0);
        due("count(10)", x.count(10), 0);
    }

    private static void safeButSpent() {
        says("(but SPENT)");
        Desk x = deskOf(0);
        int spending = scaleAsking(x, 2001);
        int like = x.sieve(2, spending, spending);
        int safe = x.sieve(8, like, 0);
        due("SAFE of what is SPENT", x.sift(safe), SPENT);
        due("SAFE of SAFE", x.sift(x.sieve(8, safe, 0)), SPENT);
        due("EITHER", x.sift(x.sieve(5, safe, x.sieve(0, 0, 0))), SPENT);
        due("count(8): once by each call", x.count(8), 3);
        due("count(9)", x.count(9), 3);
        dueList(x, 0);
    }

    private static void sieveNothing() {
        says("9 NOTHING (NONE).");
        Desk x = deskOf(0, 0);
        x.sieve(9, 0, 0);
        due("sift", x.sift(0), NONE);
        due("count(6): the first ends it", x.count(6), 1);
        due("NOT of it", x.sift(x.sieve(3, 0, 0)), NONE);
        due("WHERE of it", x.tell(x.scale(6, 0, constant(x, 1)), 0), NONE);
        due("BEFORE of it", x.sort(x.order(3, 0, 0)), NONE);
        dueList(x, 0, 1);
    }

    // ---- orders: a sort of two things moves the second one if the order tells 1 of (0, 1)

    private static void risingOfThoseAlike() {
        says("0 RISING: the one of which SCALE a tells less; neither (0)");
        for (long value : new long[] {0, -1, MOST, LEAST}) {
            Desk x = deskOf(value, value);
            x.scale(0, 0, 0);
            int rising = x.order(0, 0, 0);
            due("RISING", x.sort(rising), 0);
            due("RISING, TURNED", x.sort(x.order(1, rising, 0)), 0);
            int none = x.order(5, 0, 0);
            due("RISING tells 0, so THEN goes on", x.sort(x.order(2, rising, none)), NONE);
        }
    }

    private static void risingOfFarNumbers() {
        says("0 RISING: the one of which SCALE a tells less");
        long[][] cases = {{1, 2, 0}, {2, 1, 1}, {LEAST, MOST, 0}, {MOST, LEAST, 1}, {1L << 32, 0, 1},
            {0, 1L << 32, 0}, {-1, 0, 0}, {0, -1, 1}, {LEAST, 1, 0}, {1, LEAST, 1}};
        for (long[] one : cases) {
            Desk x = deskOf(one[0], one[1]);
            x.scale(0, 0, 0);
            x.order(0, 0, 0);
            due("RISING of " + one[0] + ", " + one[1], x.sort(0), one[2]);
            x.all();
            due("TURNED of " + one[0] + ", " + one[1], x.sort(x.order(1, 0, 0)), 1 - one[2]);
        }
    }

    private static void risingAsksXThenY() {
        says("0 RISING: (of x, then y)");
        Desk x = deskOf(0, 9);
        x.scale(0, 0, 0);
        x.scale(4, 0, 0);
        x.scale(7, 0, 0);
        // It fails of thing 0 by ZERO, of thing 1 by INDEX.
        x.scale(2, 2, 1);
        x.order(0, 3, 0);
        due("the one ahead is x", x.sort(0), ZERO);
        x.order(4, 0, 0);
        x.sort(x.order(1, 1, 0));
        dueList(x, 1, 0);
        due("the one ahead is x", x.sort(0), INDEX);
        Desk y = deskOf(0, 0);
        y.scale(10, -1, 0);
        y.order(0, 0, 0);
        due("what is asked of y tells less", y.sort(0), 1);
    }

    private static void turnedOfNeither() {
        says("1 TURNED: the other way than ORDER a.");
        Desk x = deskOf(1, 2, 2);
        x.scale(0, 0, 0);
        int rising = x.order(0, 0, 0);
        int turned = x.order(1, rising, 0);
        due("TURNED", x.sort(turned), 2);
        dueList(x, 1, 2, 0);
        due("TURNED twice", x.sort(x.order(1, turned, 0)), 2);
        dueList(x, 0, 1, 2);
        due("of what tells 0", x.sort(x.order(1, x.order(3, x.sieve(0, 0, 0), 0), 0)), 0);
    }

    private static void thenOnlyIfNeither() {
        says("2 THEN: as ORDER a; if that tells 0, as ORDER b.");
        Desk x = deskOf(5, 4, 5);
        x.scale(0, 0, 0);
        int rising = x.order(0, 0, 0);
        int none = x.order(5, 0, 0);
        int falling = x.order(1, x.order(4, 0, 0), 0);
        x.sieve(7, 2, 0);
        x.sift(0);
        due("a tells 1, b is not asked", x.sort(x.order(2, rising, none)), 1);
        due("a tells -1, b is not asked", x.sort(x.order(2, rising, none)), 0);
        due("count(6)", x.count(6), 4);
        x.all();
        due("a tells 0, b is asked", x.sort(x.order(2, rising, none)), NONE);
        due("a tells 0, as b", x.sort(x.order(2, rising, falling)), 2);
        dueList(x, 1, 2, 0);
        due("both tell 0", x.sort(x.order(2, x.order(3, x.sieve(0, 0, 0), 0), rising)), 0);
    }

    private static void beforeOfThoseAlike() {
        says("3 BEFORE: those for which SIEVE a holds come first");
        Desk x = deskOf(0, 0);
        int yes = x.sieve(0, 0, 0);
        int first = x.sieve(7, 1, 0);
        int second = x.sieve(3, first, 0);
        int none = x.order(5, 0, 0);
        int ofFirst = x.order(3, first, 0);
        int ofSecond = x.order(3, second, 0);
        int ofBoth = x.order(3, yes, 0);
        int ofNeither = x.order(3, x.sieve(3, yes, 0), 0);
        due("x alone", x.sort(ofFirst), 0);
        due("x alone, which is told", x.sort(x.order(2, ofFirst, none)), 0);
        due("both", x.sort(ofBoth), 0);
        due("both tells 0", x.sort(x.order(2, ofBoth, none)), NONE);
        due("neither", x.sort(ofNeither), 0);
        due("neither tells 0", x.sort(x.order(2, ofNeither, none)), NONE);
        due("y alone", x.sort(ofSecond), 1);
        dueList(x, 1, 0);
    }

    private static void beforeAsksXThenY() {
        says("3 BEFORE: (x, then y)");
        Desk x = deskOf(0, 0, 0, 0);
        x.sieve(6, 2, 0);
        x.order(3, 0, 0);
        due("EACH 2 holds for the second asked, y", x.sort(0), 3 + 2 + 1);
        dueList(x, 3, 2, 1, 0);
        due("count(6): both are always asked", x.count(6), 6 * 3);
        Desk y = deskOf(0, 9);
        y.scale(0, 0, 0);
        y.scale(4, 0, 0);
        y.scale(7, 0, 0);
        y.scale(2, 2, 1);
        y.order(3, y.sieve(2, 3, 3), 0);
        due("x fails first", y.sort(0), ZERO);
    }

    private static void byNumber() {
        says("4 BY NUMBER: the lesser number.");
        Desk x = deskOf(9, 8, 7);
        int byNumber = x.order(4, 0, 0);
        due("as they are", x.sort(byNumber), 0);
        due("count(6)", x.count(6), 2);
        due("turned", x.sort(x.order(1, byNumber, 0)), 3);
        dueList(x, 2, 1, 0);
        due("back", x.sort(byNumber), 3);
        dueList(x, 0, 1, 2);
        int none = x.order(5, 0, 0);
        due("no two numbers are the same", x.sort(x.order(2, byNumber, none)), 0);
    }

    private static void orderNothing() {
        says("5 NOTHING (NONE).");
        Desk x = deskOf(2, 1);
        int none = x.order(5, 0, 0);
        due("sort", x.sort(none), NONE);
        due("count(6)", x.count(6), 1);
        due("TURNED of it", x.sort(x.order(1, none, 0)), NONE);
        dueList(x, 0, 1);
    }

    // ---- failures

    private static void spentIsOneMore() {
        says("4 SPENT: 2000 ASKINGS were begun in the call, and one more would be.");
        Desk x = deskOf(0);
        int almost = scaleAsking(x, 1999);
        dueTold(x, almost, 0, 0);
        due("count(6)", x.count(6), 1999);
        int just = oneMore(x, almost);
        dueTold(x, just, 0, 0);
        due("count(6)", x.count(6), 2000);
        due("count(9)", x.count(9), 0);
        int over = oneMore(x, just);
        due("tell of 2001", x.tell(over, 0), SPENT);
        due("count(6)", x.count(6), 2000);
        due("count(10)", x.count(10), 4);
        due("count(7)", x.count(7), 1999 + 2000 + 2000);
        // The one that would be the 2001st is not begun: it does not count itself as asked.
        int counting = x.scale(10, 1, 0);
        due("tell", x.tell(x.scale(2, almost, counting), 0), SPENT);
        dueTold(x, counting, 0, 0);
    }

    private static void spentInEachCall() {
        says("SPENT, of each call that asks");
        Desk x = deskOf(0, 0);
        int half = scaleAsking(x, 1000);
        due("sum of 2 * 1000", x.sum(half), 1);
        due("count(6)", x.count(6), 2000);
        int more = oneMore(x, half);
        due("sum of 2 * 1001", x.sum(more), SPENT);
        due("group of 2 * (1000 + 1)", x.group(half, 0), SPENT);
        due("RISING of 1 + 2 * 1000", x.sort(x.order(0, half, 0)), SPENT);
        due("LIKE of 2 * (1 + 1000 + 1)", x.sift(x.sieve(2, half, 0)), SPENT);
        due("scale(9) of 2003", x.scale(9, x.scale(2, more, more), 0), SPENT);
        due("count(6)", x.count(6), 2000);
        due("count(9)", x.count(9), 5);
        Desk y = deskOf(0, 0);
        int less = scaleAsking(y, 998);
        due("LIKE of 2 * (1 + 998 + 1)", y.sift(y.sieve(2, less, 0)), 2);
        due("count(6)", y.count(6), 2000);
        int rising = y.order(0, oneMore(y, less), 0);
        due("TURNED RISING of 2 + 2 * 999", y.sort(y.order(1, rising, 0)), 0);
        due("count(6)", y.count(6), 2000);
        due("group of 2 * (999 + 1)", y.group(y.count(1) - 1, 0), 1);
        due("count(6)", y.count(6), 2000);
        due("scale(9) of 1 + 999 + 1000", y.scale(9, spread(y, less), 0), y.count(1) - 1);
        due("count(6)", y.count(6), 2000);
        due("count(9)", y.count(9), 0);
    }

    /** 2000 askings, of a scale that asks 998 and so is twice in it. */
    private static int spread(Desk x, int scale) {
        return x.scale(2, oneMore(x, scale), oneMore(x, oneMore(x, scale)));
    }

    private static void spentIsOfOneCall() {
        says("2000 ASKINGS were begun in the call: each call has its own");
        Desk x = deskOf(0);
        int just = oneMore(x, scaleAsking(x, 1999));
        for (int i = 1; i <= 20; i++) {
            due("tell of 2000", x.tell(just, 0), 1);
            due("count(7)", x.count(7), 2000 * i);
        }
        due("tell of 2001", x.tell(oneMore(x, just), 0), SPENT);
        due("tell of 2000", x.tell(just, 0), 1);
        due("count(6)", x.count(6), 2000);
    }

    private static void failureEndsTheCall() {
        says("A FAILURE ends the call");
        Desk x = deskOf(1, 0, 1);
        x.scale(0, 0, 0);
        int byIt = x.scale(4, 0, 0);
        int counting = x.scale(10, 1, 0);
        due("tell", x.tell(x.scale(2, byIt, counting), 1), ZERO);
        due("count(6)", x.count(6), 4);
        dueTold(x, counting, 0, 0);
        due("sum", x.sum(x.scale(2, byIt, counting)), ZERO);
        due("count(6): none of thing 2", x.count(6), 5 + 4);
        due("group, the key of thing 1", x.group(byIt, counting), ZERO);
        due("count(6)", x.count(6), 3 + 1 + 3);
        due("sift", x.sift(x.sieve(2, byIt, counting)), ZERO);
        due("count(6)", x.count(6), 5 + 4);
        due("sort", x.sort(x.order(0, byIt, 0)), ZERO);
        due("count(6)", x.count(6), 1 + 3 + 3);
        due("scale(9)", x.scale(9, byIt, 1), ZERO);
        due("count(6)", x.count(6), 3);
        dueTold(x, counting, 0, 4);
    }

    private static void failureChangesNothing() {
        says("(nothing but counts has changed then");
        Desk x = deskOf(1, 3, 2, 0, 5);
        x.scale(0, 0, 0);
        x.scale(4, 0, 0);
        x.sieve(1, 0, 1);
        int rising = x.order(0, x.scale(5, 0, 0), 0);
        int failing = x.order(0, x.scale(2, 0, 1), 0);
        x.group(0, 0);
        x.tell(0, 0);
        String before = seen(x);
        due("tell", x.tell(1, 3), ZERO);
        dueSame("tell", seen(x), before);
        due("sift, behind some that were kept and some that were not", x.sift(0), ZERO);
        dueSame("sift", seen(x), before);
        due("sort, behind some that went", x.sort(failing), ZERO);
        dueSame("sort", seen(x), before);
        due("sum", x.sum(1), ZERO);
        dueSame("sum", seen(x), before);
        due("group", x.group(1, 1), ZERO);
        dueSame("group", seen(x), before);
        due("scale(9)", x.scale(9, 1, 3), ZERO);
        dueSame("scale(9)", seen(x), before);
        due("sort that is done", x.sort(rising), 1 + 3);
        dueList(x, 3, 0, 2, 1, 4);
    }

    private static void failureLeavesCounts() {
        says("those of SCALES 10, of SIEVES 6 stay)");
        Desk x = deskOf(0, 0, 0);
        int counting = x.scale(10, 1, 0);
        int none = x.scale(11, 0, 0);
        int both = x.scale(2, counting, none);
        due("tell", x.tell(both, 0), NONE);
        due("scale(9)", x.scale(9, both, 0), NONE);
        due("sum", x.sum(both), NONE);
        due("group", x.group(counting, none), NONE);
        due("sort", x.sort(x.order(0, both, 0)), NONE);
        dueTold(x, counting, 0, 5);
        int each = x.sieve(6, 4, 0);
        int nothing = x.sieve(9, 0, 0);
        int failing = x.sieve(5, each, nothing);
        due("sift", x.sift(failing), NONE);
        due("tell", x.tell(x.scale(6, failing, counting), 0), NONE);
        due("SAFE meets it", x.tell(x.scale(6, x.sieve(8, failing, 0), counting), 0), 1);
        due("the fourth time holds", x.sift(each), 1);
        dueList(x, 0);
    }

    private static void metByTheSieveGoesOn() {
        says("but where a SIEVE 8 meets it.");
        Desk x = deskOf(1, 0, 1);
        x.scale(0, 0, 0);
        int byIt = x.scale(4, 0, 0);
        int good = x.sieve(2, byIt, byIt);
        int safe = x.sieve(8, good, 0);
        due("sift", x.sift(safe), 2);
        dueList(x, 0, 2);
        due("count(6)", x.count(6), 8 + 5 + 8);
        x.all();
        due("in a scale", x.sum(x.scale(6, safe, 0)), 1);
        due("answer()", x.answer(), 2);
        due("in an order", x.sort(x.order(3, safe, 0)), 1);
        dueList(x, 0, 2, 1);
        due("in a group's key", x.group(x.scale(6, safe, 0), 0), 2);
        dueGroup(x, 1, 0, 1, 0, 1);
        due("in NOW", x.scale(9, x.scale(6, safe, 0), 1), 5);
        int none = x.sieve(9, 0, 0);
        due("outside it fails", x.sift(x.sieve(4, safe, none)), NONE);
        due("count(9)", x.count(9), 1);
    }

    private static void metBySievesAndByCalls() {
        says("MET are FAILURES by SIEVES 8 and by calls.");
        Desk x = deskOf(0, 0);
        int none = x.sieve(9, 0, 0);
        int safe = x.sieve(8, none, 0);
        int nothing = x.scale(11, 0, 0);
        due("tell", x.tell(nothing, 0), NONE);
        due("count(8)", x.count(8), 1);
        due("sift", x.sift(x.sieve(3, safe, 0)), 2);
        due("count(8)", x.count(8), 3);
        due("each once: the inner meets it", x.sift(x.sieve(3, x.sieve(8, safe, 0), 0)), 2);
        due("count(8)", x.count(8), 5);
        due("by a sieve, then by the call", x.sift(x.sieve(5, safe, none)), NONE);
        due("count(8)", x.count(8), 7);
        due("sum", x.sum(nothing), NONE);
        due("group", x.group(nothing, nothing), NONE);
        due("sort", x.sort(x.order(5, 0, 0)), NONE);
        due("scale(9)", x.scale(9, nothing, 0), NONE);
        due("count(8)", x.count(8), 11);
        due("count(9)", x.count(9), 6);
    }

    // ---- answers

    private static void badBeforeFull() {
        says("of several the first: BAD (a number is none such), FULL");
        Desk x = deskOf(0);
        for (int i = 0; i < 24; i++) {
            constant(x, i);
            x.sieve(0, 0, 0);
            x.order(4, 0, 0);
        }
        int[][] badScales = {{12, 0, 0}, {0, 3, 0}, {8, 8, 0}, {2, 24, 0}, {2, 0, 24}, {6, 24, 0},
            {6, 0, 24}, {7, 24, 0}, {9, 24, 0}, {9, 0, 1}};
        for (int[] one : badScales) {
            due("scale " + one[0], x.scale(one[0], one[1], one[2]), BAD);
        }
        int[][] badSieves = {{10, 0, 0}, {1, 24, 0}, {2, 0, 24}, {3, 24, 0}, {4, 0, 24}, {8, 24, 0}};
        for (int[] one : badSieves) {
            due("sieve " + one[0], x.sieve(one[0], one[1], one[2]), BAD);
        }
        int[][] badOrders = {{6, 0, 0}, {0, 24, 0}, {1, 24, 0}, {2, 0, 24}, {3, 24, 0}};
        for (int[] one : badOrders) {
            due("order " + one[0], x.order(one[0], one[1], one[2]), BAD);
        }
        Desk met = deskThatMet(2000);
        int none = met.count(1);
        due("tell", met.tell(none, 0), BAD);
        due("tell", met.tell(0, 2), BAD);
        due("sift", met.sift(met.count(2)), BAD);
        due("sort", met.sort(1), BAD);
        due("sum", met.sum(none), BAD);
        due("group", met.group(none, 0), BAD);
        due("group", met.group(0, none), BAD);
        due("scale(9)", met.scale(9, none, 0), BAD);
        due("scale(9)", met.scale(9, 0, 2), BAD);
    }

    private static void dueAllFull(Desk x) {
        due("tell", x.tell(0, 0), FULL);
        due("sift", x.sift(0), FULL);
        due("sort", x.sort(0), FULL);
        due("sum", x.sum(0), FULL);
        due("group", x.group(0, 0), FULL);
        due("scale(9)", x.scale(9, 0, 0), FULL);
    }

    private static void fullOfThoseMet() {
        says("of calls that ask also: 2000 FAILURES were MET ever");
        Desk sieve = deskThatMet(1999);
        dueTold(sieve, 0, 0, 1);
        due("sort", sieve.sort(0), 0);
        due("sum", sieve.sum(0), 1);
        due("group", sieve.group(0, 0), 1);
        due("scale(9)", sieve.scale(9, 0, 0), sieve.count(1) - 1);
        int safe = 1;
        dueTold(sieve, sieve.scale(6, safe, 0), 0, 0);
        due("count(8), the last by a sieve", sieve.count(8), 2000);
        dueAllFull(sieve);
        Desk call = deskThatMet(1999);
        due("sift, which may ask", call.sift(0), NONE);
        due("count(8), the last by a call", call.count(8), 2000);
        dueAllFull(call);
        call.sieve(0, 0, 0);
        due("for good", call.tell(0, 1), FULL);
        Desk empty = deskThatMet(1999);
        due("sift to none", empty.sift(empty.sieve(7, 0, 0)), 0);
        due("tell", empty.tell(1, 0), NONE);
        dueAllFull(empty);
    }

    private static void fullOfMoreThanThoseMet() {
        says("or more)");
        Desk x = deskThatMet(1999);
        int safe = 1;
        due("a call that may begin meets what it meets", x.sift(x.sieve(3, safe, 0)), 2);
        due("count(8)", x.count(8), 2001);
        dueAllFull(x);
        Desk y = deskThatMet(1999);
        due("by a sieve, and then by the call", y.sift(y.sieve(5, safe, 0)), NONE);
        due("count(8)", y.count(8), 2001);
        due("count(9)", y.count(9), 1);
        dueAllFull(y);
    }

    private static void fullOnlyOfCallsThatAsk() {
        says("FULL of calls that ask: the others go on");
        Desk x = deskThatMet(2000);
        due("thing", x.thing(7, 8, 9), 2);
        due("change", x.change(2, 0, 6), 1);
        due("get", x.get(2, 0), 6);
        due("item", x.item(7, 1), 1);
        int made = x.count(1);
        for (int kind = 0; kind <= 11; kind++) {
            if (kind != 9) {
                due("scale " + kind, x.scale(kind, 0, 0), made++);
            }
        }
        made = x.count(2);
        for (int kind = 0; kind <= 9; kind++) {
            due("sieve " + kind, x.sieve(kind, 0, 0), made++);
        }
        for (int kind = 0; kind <= 5; kind++) {
            due("order " + kind, x.order(kind, 0, 0), kind + 1);
        }
        due("all", x.all(), 3);
        dueList(x, 0, 1, 2);
        due("count(8)", x.count(8), 2000);
    }

    private static void badChangesNothing() {
        says("BAD: these change nothing.");
        Desk x = deskOf(3, 4);
        x.scale(10, 1, 0);
        x.scale(11, 0, 0);
        x.sieve(0, 0, 0);
        x.order(4, 0, 0);
        x.group(0, 0);
        x.sum(1);
        x.tell(0, 0);
        String before = seen(x);
        String counts = seenCounts(x);
        int[] answers = {x.change(2, 0, 9), x.change(0, 3, 9), x.item(8, 9), x.scale(12, 0, 0),
            x.scale(9, 0, 2), x.scale(9, 2, 0), x.sieve(10, 0, 0), x.order(6, 0, 0), x.tell(2, 0),
            x.tell(0, 2), x.sift(1), x.sort(1), x.sum(2), x.group(0, 2), x.group(2, 0),
            x.list(2), x.count(11)};
        for (int i = 0; i < answers.length; i++) {
            due("bad call " + i, answers[i], BAD);
        }
        dueSame("what was BAD", seen(x), before);
        dueSame("what was BAD", seenCounts(x), counts);
        dueTold(x, 0, 0, 5);
    }

    private static void fullChangesNothing() {
        says("FULL: these change nothing.");
        Desk x = deskThatMet(1998);
        int counting = x.scale(10, 1, 0);
        int each = x.sieve(6, 3, 0);
        x.group(counting, 0);
        x.sum(1);
        x.tell(x.scale(6, 1, 0), 0);
        int many = x.count(8);
        due("count(8)", many, 2000);
        String before = seen(x);
        String counts = seenCounts(x);
        due("tell", x.tell(counting, 0), FULL);
        due("sum", x.sum(counting), FULL);
        due("group", x.group(counting, counting), FULL);
        due("sift", x.sift(each), FULL);
        due("sift", x.sift(0), FULL);
        due("sort", x.sort(0), FULL);
        due("scale(9)", x.scale(9, counting, 0), FULL);
        dueSame("what was FULL", seen(x), before);
        dueSame("what was FULL", seenCounts(x), counts);
        Desk y = deskOf(new long[40]);
        for (int i = 0; i < 24; i++) {
            y.scale(10, 1, 0);
            y.sieve(0, 0, 0);
            y.order(4, 0, 0);
        }
        due("thing", y.thing(1, 1, 1), FULL);
        due("scale", y.scale(11, 0, 0), FULL);
        due("scale(9)", y.scale(9, 23, 0), FULL);
        due("sieve", y.sieve(9, 0, 0), FULL);
        due("order", y.order(5, 0, 0), FULL);
        for (int what = 0; what <= 10; what++) {
            int[] want = {40, 24, 24, 24, 40, 0, 0, 0, 0, 0, 0};
            due("count(" + what + ")", y.count(what), want[what]);
        }
        dueTold(y, 23, 39, 0);
        due("sift(23)", y.sift(23), 40);
        due("sort(23)", y.sort(23), 0);
    }

    private static void failedIsTenLess() {
        says("FAILED: -10 less the FAILURE.");
        Desk x = deskOf(0);
        int column = x.scale(0, 0, 0);
        int[] failing = {x.scale(4, column, column), x.scale(7, constant(x, 8), 0),
            x.scale(11, 0, 0), scaleAsking(x, 2001)};
        for (int i = 0; i < failing.length; i++) {
            due("FAILURE " + (i + 1), x.tell(failing[i], 0), -11 - i);
            due("count(10)", x.count(10), i + 1);
        }
        due("FAILED", SieveDesk.FAILED, -10);
    }

    // ---- promises 1 to 5

    private static void newObject() {
        says("SieveDesk(): No THINGS, nothing is made.");
        Desk x = deskOf(1, 2);
        constant(x, 1);
        x.sum(0);
        x.item(0, 5);
        Desk y = new Desk();
        for (int what = 0; what <= 10; what++) {
            due("count(" + what + ")", y.count(what), 0);
        }
        due("tell(0, 0)", y.tell(0, 0), BAD);
        due("change(0, 0, 1)", y.change(0, 0, 1), BAD);
        due("get(0, 0)", y.get(0, 0), 0);
        due("sift(0)", y.sift(0), BAD);
        due("sort(0)", y.sort(0), BAD);
        due("sum(0)", y.sum(0), BAD);
        due("group(0, 0)", y.group(0, 0), BAD);
        due("scale(9, 0, 0)", y.scale(9, 0, 0), BAD);
        due("answer()", y.answer(), 0);
        due("groups(0, 1)", y.groups(0, 1), 0);
        y.thing(1, 1, 1);
        dueTold(y, y.scale(8, 0, 0), 0, 0);
    }

    private static void thingComesBehind() {
        says("A THING: its number; it comes behind THE LIST.");
        Desk x = new Desk();
        due("thing on an empty list", x.thing(3, 0, 0), 0);
        dueList(x, 0);
        x.thing(2, 0, 0);
        x.thing(1, 0, 0);
        x.order(4, 0, 0);
        x.sort(x.order(1, 0, 0));
        due("thing behind a turned list", x.thing(0, 0, 0), 3);
        dueList(x, 2, 1, 0, 3);
        x.sieve(7, 1, 0);
        x.sift(0);
        due("thing behind a shorter list", x.thing(0, 0, 0), 4);
        dueList(x, 0, 4);
        x.sift(x.sieve(7, 0, 0));
        due("thing on a list made empty", x.thing(0, 0, 0), 5);
        dueList(x, 5);
    }

    private static void thingFull() {
        says("FULL: 40.");
        Desk x = deskOf(new long[39]);
        due("the 40th", x.thing(1, 2, 3), 39);
        due("the 41st", x.thing(4, 5, 6), FULL);
        due("count(0)", x.count(0), 40);
        due("count(4)", x.count(4), 40);
        due("get(39, 2)", x.get(39, 2), 3);
        due("list(39)", x.list(39), 39);
        due("list(40)", x.list(40), BAD);
        x.sieve(7, 1, 0);
        due("sift", x.sift(0), 1);
        due("with room in the list", x.thing(4, 5, 6), FULL);
        dueList(x, 0);
        due("all()", x.all(), 40);
        due("all of them are there", x.list(39), 39);
    }

    private static void changeBad() {
        says("A COLUMN of a THING becomes v: 1. BAD.");
        Desk x = deskOf(0, 0);
        for (int i = 0; i < 2; i++) {
            for (int column = 0; column <= 2; column++) {
                long v = i == 0 ? LEAST + column : MOST - column;
                due("change(" + i + ", " + column + ")", x.change(i, column, v), 1);
            }
        }
        String before = seen(x);
        due("thing -1", x.change(-1, 0, 5), BAD);
        due("thing 2, of 2", x.change(2, 0, 5), BAD);
        due("thing 40", x.change(40, 0, 5), BAD);
        due("column -1", x.change(1, -1, 5), BAD);
        due("column 3", x.change(0, 3, 5), BAD);
        for (int far : FAR) {
            due("thing " + far, x.change(far, 0, 5), BAD);
            due("column " + far, x.change(0, far, 5), BAD);
            due("both " + far, x.change(far, far, 5), BAD);
        }
        dueSame("what was BAD", seen(x), before);
        due("get(0, 2)", x.get(0, 2), LEAST + 2);
        due("get(1, 0)", x.get(1, 0), MOST);
    }

    private static void getNone() {
        says("A COLUMN of a THING; 0: there is none such.");
        Desk x = new Desk();
        due("of no things", x.get(0, 0), 0);
        x.thing(5, 6, 7);
        x.thing(8, 9, 10);
        due("get(1, 2)", x.get(1, 2), 10);
        due("thing -1", x.get(-1, 2), 0);
        due("thing 2", x.get(2, 0), 0);
        due("column -1", x.get(1, -1), 0);
        due("column 3", x.get(0, 3), 0);
        for (int far : FAR) {
            due("thing " + far, x.get(far, 0), 0);
            due("column " + far, x.get(0, far), 0);
            due("both " + far, x.get(far, far), 0);
        }
    }

    private static void itemBad() {
        says("Item i of THE ROW becomes v: 1. BAD.");
        Desk x = deskOf(0);
        due("item 0", x.item(0, MOST), 1);
        due("item 7", x.item(7, LEAST), 1);
        due("item -1", x.item(-1, 5), BAD);
        due("item 8", x.item(8, 5), BAD);
        for (int far : FAR) {
            due("item " + far, x.item(far, 5), BAD);
        }
        long[] want = {MOST, 0, 0, 0, 0, 0, 0, LEAST};
        for (int i = 0; i < 8; i++) {
            dueTold(x, x.scale(8, i, 0), 0, want[i]);
        }
    }

    // ---- promises 6 to 8

    /** Two things, three scales, two sieves, four orders: so that no number is good for all. */
    private static Desk deskOfParts() {
        Desk x = deskOf(1, 2);
        for (int i = 0; i < 3; i++) {
            constant(x, 0);
        }
        for (int i = 0; i < 2; i++) {
            x.sieve(0, 0, 0);
        }
        for (int i = 0; i < 4; i++) {
            x.order(4, 0, 0);
        }
        return x;
    }

    private static void scaleBadKind() {
        says("scale: BAD: the KIND");
        Desk x = deskOfParts();
        due("kind -1", x.scale(-1, 0, 0), BAD);
        due("kind 12", x.scale(12, 0, 0), BAD);
        for (int far : FAR) {
            due("kind " + far, x.scale(far, 0, 0), BAD);
        }
        due("count(1)", x.count(1), 3);
        for (int kind = 0; kind <= 11; kind++) {
            due("kind " + kind, x.scale(kind, 0, 0), 3 + kind);
        }
    }

    private static void scaleBadColumnOrPlace() {
        says("a of 0, 8 (a COLUMN, a place of THE ROW)");
        Desk x = deskOfParts();
        due("column -1", x.scale(0, -1, 0), BAD);
        due("column 3", x.scale(0, 3, 0), BAD);
        due("place -1", x.scale(8, -1, 0), BAD);
        due("place 8", x.scale(8, 8, 0), BAD);
        for (int far : FAR) {
            due("column " + far, x.scale(0, far, 0), BAD);
            due("place " + far, x.scale(8, far, 0), BAD);
        }
        due("count(1)", x.count(1), 3);
        due("column 0", x.scale(0, 0, 0), 3);
        due("column 2", x.scale(0, 2, 0), 4);
        due("place 0", x.scale(8, 0, 0), 5);
        due("place 7", x.scale(8, 7, 0), 6);
    }

    private static void scaleBadFirst() {
        says("of 2 to 5, 7, 9 a SCALE, of 6 a SIEVE");
        Desk x = deskOfParts();
        for (int kind : new int[] {2, 3, 4, 5, 7, 9}) {
            due("kind " + kind + ", scale -1", x.scale(kind, -1, 0), BAD);
            due("kind " + kind + ", scale 3 of 3", x.scale(kind, 3, 0), BAD);
            for (int far : FAR) {
                due("kind " + kind + ", scale " + far, x.scale(kind, far, 0), BAD);
            }
        }
        due("sieve -1", x.scale(6, -1, 0), BAD);
        due("sieve 2 of 2", x.scale(6, 2, 0), BAD);
        for (int far : FAR) {
            due("sieve " + far, x.scale(6, far, 0), BAD);
        }
        due("count(1)", x.count(1), 3);
        due("sieve 1", x.scale(6, 1, 0), 3);
        Desk y = deskOfParts();
        int made = 3;
        for (int kind : new int[] {2, 3, 4, 5, 7, 9}) {
            due("kind " + kind, y.scale(kind, 2, 0), made++);
        }
    }

    private static void scaleBadSecond() {
        says("b of 2 to 6 a SCALE, of 9 a THING.");
        Desk x = deskOfParts();
        for (int kind = 2; kind <= 6; kind++) {
            due("kind " + kind + ", scale -1", x.scale(kind, 0, -1), BAD);
            due("kind " + kind + ", scale 3 of 3", x.scale(kind, 0, 3), BAD);
            for (int far : FAR) {
                due("kind " + kind + ", scale " + far, x.scale(kind, 0, far), BAD);
            }
        }
        due("thing -1", x.scale(9, 0, -1), BAD);
        due("thing 2 of 2", x.scale(9, 0, 2), BAD);
        for (int far : FAR) {
            due("thing " + far, x.scale(9, 0, far), BAD);
        }
        due("count(1)", x.count(1), 3);
        due("count(7)", x.count(7), 0);
        due("thing 1", x.scale(9, 0, 1), 3);
        Desk y = deskOfParts();
        for (int kind = 2; kind <= 6; kind++) {
            due("kind " + kind, y.scale(kind, 0, 2), 1 + kind);
        }
        Desk noThing = new Desk();
        constant(noThing, 1);
        due("where there are no things", noThing.scale(9, 0, 0), BAD);
    }

    private static void scaleFreeNumbers() {
        says("scale: BAD is told of no other a, b");
        Desk x = deskOfParts();
        int[][] good = {{1, -1, -1}, {1, LOW, MANY}, {10, -1, -1}, {10, MANY, LOW}, {11, -1, -1},
            {11, MANY, LOW}, {0, 0, -1}, {0, 0, MANY}, {7, 0, -1}, {7, 0, MANY}, {8, 0, -1},
            {8, 0, LOW}};
        for (int i = 0; i < good.length; i++) {
            due("kind " + good[i][0], x.scale(good[i][0], good[i][1], good[i][2]), 3 + i);
        }
    }

    private static void scaleFull() {
        says("scale: FULL: 24");
        Desk x = deskOf(7);
        for (int i = 0; i < 23; i++) {
            due("scale", constant(x, i), i);
        }
        x.sieve(0, 0, 0);
        due("the 24th", x.scale(0, 0, 0), 23);
        for (int kind = 0; kind <= 11; kind++) {
            due("the 25th, of kind " + kind, x.scale(kind, 0, 0), FULL);
        }
        due("count(1)", x.count(1), 24);
        due("count(7)", x.count(7), 0);
        dueTold(x, 23, 0, 7);
        dueTold(x, 22, 0, 22);
    }

    private static void scaleNowFull() {
        says("of 9 as calls that ask");
        Desk x = deskThatMet(1999);
        int made = x.count(1);
        due("1999 met", x.scale(9, 0, 0), made);
        due("the 2000th", x.scale(9, 1, 0), NONE);
        due("2000 met", x.scale(9, 0, 0), FULL);
        due("count(1)", x.count(1), made + 1);
        due("another kind", x.scale(8, 0, 0), made + 1);
        Desk y = deskOf(0);
        for (int i = 0; i < 24; i++) {
            y.scale(i == 0 ? 11 : 10, 1, 0);
        }
        due("24, of one that would fail", y.scale(9, 0, 0), FULL);
        due("count(8)", y.count(8), 0);
        due("24, of one that counts", y.scale(9, 1, 0), FULL);
        dueTold(y, 1, 0, 0);
    }

    private static void scaleNowFailed() {
        says("FAILED (of 9: it asks; there is none then).");
        Desk x = deskOf(0, 8);
        int column = x.scale(0, 0, 0);
        int byIt = x.scale(4, column, column);
        int item = x.scale(7, column, 0);
        int none = x.scale(11, 0, 0);
        due("ZERO", x.scale(9, byIt, 0), ZERO);
        due("INDEX", x.scale(9, item, 1), INDEX);
        due("NONE", x.scale(9, none, 0), NONE);
        due("count(1)", x.count(1), 4);
        due("tell(4, 0)", x.tell(4, 0), BAD);
        due("count(6): it asks", x.count(6), 1);
        due("count(7)", x.count(7), 3 + 2 + 1);
        due("count(8)", x.count(8), 3);
        due("count(9)", x.count(9), 3);
        due("of the other thing there is one", x.scale(9, byIt, 1), 4);
        dueTold(x, 4, 0, 1);
        due("SPENT", x.scale(9, scaleAsking(x, 2001), 0), SPENT);
    }

    private static void sieveBadKind() {
        says("sieve: BAD: the KIND");
        Desk x = deskOfParts();
        due("kind -1", x.sieve(-1, 0, 0), BAD);
        due("kind 10", x.sieve(10, 0, 0), BAD);
        for (int far : FAR) {
            due("kind " + far, x.sieve(far, 0, 0), BAD);
        }
        due("count(2)", x.count(2), 2);
        for (int kind = 0; kind <= 9; kind++) {
            due("kind " + kind, x.sieve(kind, 0, 0), 2 + kind);
        }
    }

    private static void sieveBadScales() {
        says("a, b of 1, 2 SCALES");
        Desk x = deskOfParts();
        for (int kind = 1; kind <= 2; kind++) {
            due("kind " + kind + ", a -1", x.sieve(kind, -1, 0), BAD);
            due("kind " + kind + ", a 3 of 3", x.sieve(kind, 3, 0), BAD);
            due("kind " + kind + ", b -1", x.sieve(kind, 0, -1), BAD);
            due("kind " + kind + ", b 3 of 3", x.sieve(kind, 0, 3), BAD);
            for (int far : FAR) {
                due("kind " + kind + ", a " + far, x.sieve(kind, far, 0), BAD);
                due("kind " + kind + ", b " + far, x.sieve(kind, 0, far), BAD);
            }
        }
        due("count(2)", x.count(2), 2);
        due("kind 1, scale 2, of which there is no sieve", x.sieve(1, 2, 2), 2);
        due("kind 2", x.sieve(2, 2, 2), 3);
    }

    private static void sieveBadSieves() {
        says("a of 3 to 5, 8, b of 4, 5 SIEVES.");
        Desk x = deskOfParts();
        for (int kind : new int[] {3, 4, 5, 8}) {
            due("kind " + kind + ", a -1", x.sieve(kind, -1, 0), BAD);
            due("kind " + kind + ", a 2 of 2", x.sieve(kind, 2, 0), BAD);
            for (int far : FAR) {
                due("kind " + kind + ", a " + far, x.sieve(kind, far, 0), BAD);
            }
        }
        for (int kind = 4; kind <= 5; kind++) {
            due("kind " + kind + ", b -1", x.sieve(kind, 0, -1), BAD);
            due("kind " + kind + ", b 2 of 2", x.sieve(kind, 0, 2), BAD);
            for (int far : FAR) {
                due("kind " + kind + ", b " + far, x.sieve(kind, 0, far), BAD);
            }
        }
        due("count(2)", x.count(2), 2);
        int made = 2;
        for (int kind : new int[] {3, 4, 5, 8}) {
            due("kind " + kind, x.sieve(kind, 1, 1), made++);
        }
    }

    private static void sieveFreeNumbers() {
        says("sieve: BAD is told of no other a, b");
        Desk x = new Desk();
        int made = 0;
        for (int kind : new int[] {0, 6, 7, 9}) {
            due("kind " + kind, x.sieve(kind, -1, MANY), made++);
            due("kind " + kind, x.sieve(kind, LOW, -1), made++);
        }
        for (int kind : new int[] {3, 8}) {
            due("kind " + kind, x.sieve(kind, 0, -1), made++);
            due("kind " + kind, x.sieve(kind, 0, MANY), made++);
        }
    }

    private static void sieveFull() {
        says("sieve: FULL: 24.");
        Desk x = deskOf(7, 8);
        constant(x, 0);
        for (int i = 0; i < 23; i++) {
            due("sieve", x.sieve(0, 0, 0), i);
        }
        due("the 24th", x.sieve(7, 1, 0), 23);
        for (int kind = 0; kind <= 9; kind++) {
            due("the 25th, of kind " + kind, x.sieve(kind, 0, 0), FULL);
        }
        due("count(2)", x.count(2), 24);
        due("sift(22)", x.sift(22), 2);
        due("sift(23)", x.sift(23), 1);
    }

    private static void orderBadKind() {
        says("order: BAD: the KIND");
        Desk x = deskOfParts();
        due("kind -1", x.order(-1, 0, 0), BAD);
        due("kind 6", x.order(6, 0, 0), BAD);
        for (int far : FAR) {
            due("kind " + far, x.order(far, 0, 0), BAD);
        }
        due("count(3)", x.count(3), 4);
        for (int kind = 0; kind <= 5; kind++) {
            due("kind " + kind, x.order(kind, 0, 0), 4 + kind);
        }
    }

    private static void orderBadNumbers() {
        says("a of 0 a SCALE, of 1, 2 (and b of 2) ORDERS, of 3 a SIEVE.");
        Desk x = deskOfParts();
        int[] many = {3, 4, 4, 2};
        for (int kind = 0; kind <= 3; kind++) {
            due("kind " + kind + ", a -1", x.order(kind, -1, 0), BAD);
            due("kind " + kind + ", a one too far", x.order(kind, many[kind], 0), BAD);
            for (int far : FAR) {
                due("kind " + kind + ", a " + far, x.order(kind, far, 0), BAD);
                due("kind 2, b " + far, x.order(2, 0, far), BAD);
            }
        }
        due("kind 2, b -1", x.order(2, 0, -1), BAD);
        due("kind 2, b 4 of 4", x.order(2, 0, 4), BAD);
        due("count(3)", x.count(3), 4);
        for (int kind = 0; kind <= 3; kind++) {
            due("kind " + kind + ", a the last", x.order(kind, many[kind] - 1, 3), 4 + kind);
        }
    }

    private static void orderFreeNumbers() {
        says("order: BAD is told of no other a, b");
        Desk x = deskOfParts();
        int made = 4;
        for (int kind : new int[] {4, 5}) {
            due("kind " + kind, x.order(kind, -1, MANY), made++);
            due("kind " + kind, x.order(kind, LOW, -1), made++);
        }
        for (int kind : new int[] {0, 1, 3}) {
            due("kind " + kind, x.order(kind, 0, -1), made++);
            due("kind " + kind, x.order(kind, 0, MANY), made++);
        }
    }

    private static void orderFull() {
        says("order: FULL: 24.");
        Desk x = deskOf(7, 8);
        constant(x, 0);
        x.sieve(0, 0, 0);
        for (int i = 0; i < 23; i++) {
            due("order", x.order(4, 0, 0), i);
        }
        due("the 24th", x.order(1, 0, 0), 23);
        for (int kind = 0; kind <= 5; kind++) {
            due("the 25th, of kind " + kind, x.order(kind, 0, 0), FULL);
        }
        due("count(3)", x.count(3), 24);
        due("sort(22)", x.sort(22), 0);
        due("sort(23)", x.sort(23), 1);
    }

    // ---- promises 9 to 12

    private static void allOfNone() {
        says("THE LIST becomes all THINGS: how many, if there are none.");
        Desk x = new Desk();
        due("all()", x.all(), 0);
        dueList(x);
    }

    private static void allByNumbers() {
        says("THE LIST becomes all THINGS, by numbers: how many.");
        Desk x = deskOf(new long[40]);
        x.order(4, 0, 0);
        x.sieve(7, 0, 0);
        due("sort", x.sort(x.order(1, 0, 0)), 780);
        due("all() of a turned list", x.all(), 40);
        for (int i = 0; i < 40; i++) {
            due("list(" + i + ")", x.list(i), i);
        }
        due("sift", x.sift(0), 0);
        due("all() of an empty list", x.all(), 40);
        due("all() again", x.all(), 40);
        for (int i = 0; i < 40; i++) {
            due("list(" + i + ")", x.list(i), i);
        }
        due("list(40)", x.list(40), BAD);
        due("count(6): all() asks nothing", x.count(6), 40);
    }

    private static void tellBad() {
        says("tell: BAD");
        Desk x = deskOfParts();
        dueTold(x, 2, 1, 0);
        due("scale -1", x.tell(-1, 0), BAD);
        due("scale 3 of 3", x.tell(3, 0), BAD);
        due("thing -1", x.tell(0, -1), BAD);
        due("thing 2 of 2", x.tell(0, 2), BAD);
        for (int far : FAR) {
            due("scale " + far, x.tell(far, 0), BAD);
            due("thing " + far, x.tell(0, far), BAD);
        }
        due("count(7)", x.count(7), 1);
    }

    private static void tellOfWhatIsNotListed() {
        says("What a SCALE tells of a THING is asked: 1; answer() tells it, listed or not.");
        Desk x = deskOf(MOST, LEAST);
        x.scale(0, 0, 0);
        x.sift(x.sieve(7, 0, 0));
        dueTold(x, 0, 0, MOST);
        dueTold(x, 0, 1, LEAST);
        dueList(x);
    }

    private static void siftOfNone() {
        says("THE LIST keeps those for which a SIEVE holds: how many, of an empty list.");
        Desk x = new Desk();
        x.sieve(9, 0, 0);
        due("sift of what would fail", x.sift(0), 0);
        due("count(6)", x.count(6), 0);
        due("count(8)", x.count(8), 0);
        dueList(x);
    }

    private static void siftAllOrNone() {
        says("THE LIST keeps those for which a SIEVE holds: all, or none.");
        Desk x = deskOf(new long[40]);
        x.sieve(0, 0, 0);
        x.sieve(3, 0, 0);
        due("sift of all", x.sift(0), 40);
        due("list(0)", x.list(0), 0);
        due("list(39)", x.list(39), 39);
        due("sift of none", x.sift(1), 0);
        dueList(x);
        due("sift of an empty list", x.sift(0), 0);
        x.all();
        due("the last alone", x.sift(x.sieve(6, 40, 0)), 1);
        dueList(x, 39);
    }

    private static void siftInItsOrder() {
        says("asked one by one in its order: how many.");
        Desk x = deskOf(0, 1, 2, 3);
        x.order(4, 0, 0);
        x.sort(x.order(1, 0, 0));
        due("every second one", x.sift(x.sieve(6, 2, 0)), 2);
        dueList(x, 2, 0);
        x.all();
        x.sort(1);
        x.scale(0, 0, 0);
        x.scale(7, 0, 0);
        x.item(3, 1);
        x.item(1, 1);
        due("those that stay keep their order", x.sift(x.sieve(1, 1, constant(x, 0))), 2);
        dueList(x, 3, 1);
    }

    private static void siftBad() {
        says("sift: BAD");
        Desk x = deskOfParts();
        due("sieve -1", x.sift(-1), BAD);
        due("sieve 2 of 2", x.sift(2), BAD);
        for (int far : FAR) {
            due("sieve " + far, x.sift(far), BAD);
        }
        dueList(x, 0, 1);
        due("sieve 1", x.sift(1), 2);
        due("count(9)", x.count(9), 0);
    }

    private static void sortOfNoneOrOne() {
        says("each THING, from the second one on: there is none of an empty list, of one THING");
        Desk x = new Desk();
        x.order(5, 0, 0);
        due("sort of an empty list", x.sort(0), 0);
        x.thing(1, 1, 1);
        due("sort of one thing", x.sort(0), 0);
        due("count(7)", x.count(7), 0);
        dueList(x, 0);
        x.thing(1, 1, 1);
        due("sort of two", x.sort(0), NONE);
    }

    private static void sortFromTheSecondOn() {
        says("each THING, from the second one on, as it stands");
        Desk x = deskOf(3, 1, 2, 0);
        x.scale(0, 0, 0);
        x.order(0, 0, 0);
        due("sort", x.sort(0), 1 + 1 + 3);
        dueList(x, 3, 1, 2, 0);
        // 1 before 3: one pair; 2 before 3, not before 1: two; 0 before all: three.
        due("count(6)", x.count(6), 3 * (1 + 2 + 3));
        due("sort of what is in order", x.sort(0), 0);
        due("count(6): each is asked once of the one ahead", x.count(6), 3 * 3);
    }

    private static void sortToTheHead() {
        says("goes before the one ahead of it, and on so");
        Desk x = deskOf(new long[40]);
        for (int i = 0; i < 40; i++) {
            x.change(i, 0, -i);
        }
        x.order(4, 0, 0);
        due("sort of 40, all to the head", x.sort(x.order(1, 0, 0)), 780);
        due("count(6)", x.count(6), 1560);
        for (int i = 0; i < 40; i++) {
            due("list(" + i + ")", x.list(i), 39 - i);
        }
        x.scale(0, 0, 0);
        due("sort of 40 in order", x.sort(x.order(0, 0, 0)), 0);
        due("count(6)", x.count(6), 39 * 3);
    }

    private static void sortLeavesThoseAlike() {
        says("as long as the ORDER tells 1 of (the one ahead, it)");
        Desk x = deskOf(1, 1, 0, 1, 0);
        x.scale(0, 0, 0);
        int rising = x.order(0, 0, 0);
        due("sort", x.sort(rising), 2 + 3);
        dueList(x, 2, 4, 0, 1, 3);
        due("turned", x.sort(x.order(1, rising, 0)), 6);
        dueList(x, 0, 1, 3, 2, 4);
        due("an order that tells 0 of all", x.sort(x.order(0, constant(x, 4), 0)), 0);
        dueList(x, 0, 1, 3, 2, 4);
    }

    private static void sortOfChangingOrder() {
        says("how often one went.");
        Desk x = deskOf(0, 0, 0, 0);
        x.sieve(6, 4, 0);
        x.order(3, 0, 0);
        // Of every second pair the sieve holds for y alone: (0, 1) no, (1, 2) yes, (0, 2) no,
        // (1, 3) yes, (2, 3) no.
        due("sort", x.sort(0), 2);
        dueList(x, 0, 2, 3, 1);
        due("count(6)", x.count(6), 5 * 3);
    }

    private static void sortBad() {
        says("sort: BAD");
        Desk x = deskOfParts();
        due("order -1", x.sort(-1), BAD);
        due("order 4 of 4", x.sort(4), BAD);
        for (int far : FAR) {
            due("order " + far, x.sort(far), BAD);
        }
        due("order 3", x.sort(3), 0);
        due("count(9)", x.count(9), 0);
        dueList(x, 0, 1);
    }

    // ---- promises 13 to 15

    private static void sumOfNone() {
        says("What a SCALE tells of all of THE LIST, together, of an empty list");
        Desk x = deskOf(4);
        x.scale(0, 0, 0);
        x.scale(11, 0, 0);
        x.tell(0, 0);
        x.sift(x.sieve(7, 0, 0));
        due("sum of what would fail", x.sum(1), 1);
        due("answer()", x.answer(), 0);
        due("count(9)", x.count(9), 0);
    }

    private static void sumOfAll() {
        says("What a SCALE tells of all of THE LIST in order, together: 1; answer().");
        Desk x = new Desk();
        for (int i = 0; i < 40; i++) {
            x.thing(i, 1L << i, 0);
        }
        x.scale(0, 1, 0);
        due("sum of 40", x.sum(0), 1);
        due("answer()", x.answer(), (1L << 40) - 1);
        due("count(6)", x.count(6), 40);
        x.sift(x.sieve(7, 2, 0));
        int counting = x.scale(10, 10, 1);
        x.scale(0, 0, 0);
        int times = x.scale(3, counting, 2);
        x.order(4, 0, 0);
        x.sort(x.order(1, 0, 0));
        due("sum in order: thing 1, then thing 0", x.sum(times), 1);
        due("answer()", x.answer(), 1 * 1 + 11 * 0);
        x.all();
        x.sift(x.sieve(7, 2, 0));
        due("sum in order: thing 0, then thing 1", x.sum(times), 1);
        due("answer()", x.answer(), 21 * 0 + 31 * 1);
    }

    private static void sumBad() {
        says("sum: BAD");
        Desk x = deskOfParts();
        due("scale -1", x.sum(-1), BAD);
        due("scale 3 of 3", x.sum(3), BAD);
        for (int far : FAR) {
            due("scale " + far, x.sum(far), BAD);
        }
        due("count(7)", x.count(7), 0);
        due("scale 2", x.sum(2), 1);
    }

    private static void groupOfNone() {
        says("GROUPS are made of THE LIST: how many, of an empty list.");
        Desk x = deskOf(4, 5);
        x.scale(0, 0, 0);
        x.scale(11, 0, 0);
        due("group", x.group(0, 0), 2);
        x.sift(x.sieve(7, 0, 0));
        due("group of what would fail", x.group(1, 1), 0);
        due("count(5)", x.count(5), 0);
        dueGroup(x, 0, 0, 0, 0, 0);
        due("count(9)", x.count(9), 0);
    }

    private static void groupOfOneOrOfEach() {
        says("THINGS of which the SCALE key tells the same are one");
        Desk x = new Desk();
        for (int i = 0; i < 40; i++) {
            x.thing(((long) i << 32) + 5, i, 0);
        }
        x.scale(0, 0, 0);
        x.scale(0, 1, 0);
        due("40 groups, keys that are the same as ints", x.group(0, 1), 40);
        dueGroup(x, 0, 5, 1, 0, 0);
        dueGroup(x, 39, (39L << 32) + 5, 1, 39, 39);
        dueGroup(x, 40, 0, 0, 0, 0);
        due("one group", x.group(constant(x, -1), 1), 1);
        dueGroup(x, 0, -1, 40, 780, 0);
        dueGroup(x, 1, 0, 0, 0, 0);
        Desk y = deskOf(LEAST, MOST, LEAST, 0, -1, MOST, LEAST);
        y.scale(0, 0, 0);
        due("keys far apart", y.group(0, constant(y, 1)), 4);
        dueGroup(y, 0, LEAST, 3, 3, 0);
        dueGroup(y, 1, MOST, 2, 2, 1);
        dueGroup(y, 2, 0, 1, 1, 3);
        dueGroup(y, 3, -1, 1, 1, 4);
    }

    private static void groupKeyThenOf() {
        says("(of each THING key, then of, is asked)");
        Desk x = deskOf(0, 0, 0);
        int counting = x.scale(10, 1, 0);
        due("one scale is both", x.group(counting, counting), 3);
        dueGroup(x, 0, 0, 1, 1, 0);
        dueGroup(x, 1, 2, 1, 3, 1);
        dueGroup(x, 2, 4, 1, 5, 2);
        due("count(6)", x.count(6), 6);
        int none = x.scale(11, 0, 0);
        int index = x.scale(7, constant(x, -1), 0);
        due("key fails first", x.group(none, index), NONE);
        due("count(6)", x.count(6), 1);
        due("key fails first", x.group(index, none), INDEX);
        due("of fails behind key", x.group(counting, none), NONE);
        due("count(6)", x.count(6), 2);
    }

    private static void groupsBeforeAreGone() {
        says("How many (those before are gone).");
        Desk x = deskOf(1, 2, 1, 3);
        x.scale(0, 0, 0);
        due("three groups", x.group(0, 0), 3);
        int one = constant(x, 9);
        due("one group", x.group(one, one), 1);
        due("count(5)", x.count(5), 1);
        dueGroup(x, 0, 9, 4, 36, 0);
        dueGroup(x, 1, 0, 0, 0, 0);
        dueGroup(x, 2, 0, 0, 0, 0);
        due("three groups anew", x.group(0, one), 3);
        dueGroup(x, 0, 1, 2, 18, 0);
        dueGroup(x, 1, 2, 1, 9, 1);
        dueGroup(x, 2, 3, 1, 9, 3);
        x.all();
        x.change(0, 0, 77);
        dueGroup(x, 0, 1, 2, 18, 0);
    }

    private static void groupBad() {
        says("group: BAD");
        Desk x = deskOfParts();
        due("group(2, 2)", x.group(2, 2), 1);
        due("key -1", x.group(-1, 0), BAD);
        due("key 3 of 3", x.group(3, 0), BAD);
        due("of -1", x.group(0, -1), BAD);
        due("of 3 of 3", x.group(0, 3), BAD);
        for (int far : FAR) {
            due("key " + far, x.group(far, 0), BAD);
            due("of " + far, x.group(0, far), BAD);
        }
        due("count(5)", x.count(5), 1);
        due("count(7)", x.count(7), 4);
    }

    private static void answerAtFirst() {
        says("What the latest tell(), sum() that was done told; 0.");
        Desk x = deskOf(5);
        due("of a new desk", x.answer(), 0);
        int none = x.scale(11, 0, 0);
        x.tell(none, 0);
        x.sum(none);
        x.tell(1, 0);
        due("where none was done", x.answer(), 0);
    }

    private static void answerOfWhatWasDone() {
        says("the latest that was done");
        Desk x = deskOf(5, 6);
        x.scale(0, 0, 0);
        int none = x.scale(11, 0, 0);
        dueTold(x, 0, 1, 6);
        due("tell, failing", x.tell(none, 0), NONE);
        due("answer()", x.answer(), 6);
        due("sum", x.sum(0), 1);
        due("answer()", x.answer(), 11);
        due("sum, failing", x.sum(none), NONE);
        due("sum, BAD", x.sum(2), BAD);
        due("tell, BAD", x.tell(0, 2), BAD);
        due("answer()", x.answer(), 11);
        due("answer() again", x.answer(), 11);
        x.change(0, 0, 100);
        due("answer() is what was told", x.answer(), 11);
        dueTold(x, 0, 0, 100);
    }

    private static void answerOfNoOther() {
        says("What the latest tell(), sum() told: of no other call");
        Desk x = deskOf(5, 6);
        x.scale(0, 0, 0);
        dueTold(x, 0, 1, 6);
        x.group(0, 0);
        due("behind group()", x.answer(), 6);
        x.scale(9, 0, 0);
        due("behind scale(9)", x.answer(), 6);
        x.sift(x.sieve(0, 0, 0));
        due("behind sift()", x.answer(), 6);
        x.sort(x.order(0, 0, 0));
        due("behind sort()", x.answer(), 6);
        x.thing(1, 1, 1);
        x.all();
        due("behind all()", x.answer(), 6);
    }

    // ---- promises 16 to 18

    private static void listNone() {
        says("The THING at a place of THE LIST; BAD: there is none.");
        Desk x = new Desk();
        due("of an empty list", x.list(0), BAD);
        x.thing(5, 0, 0);
        x.thing(6, 0, 0);
        due("place 0", x.list(0), 0);
        due("place 1", x.list(1), 1);
        due("place 2", x.list(2), BAD);
        due("place -1", x.list(-1), BAD);
        due("place 40", x.list(40), BAD);
        for (int far : FAR) {
            due("place " + far, x.list(far), BAD);
        }
        x.sift(x.sieve(7, 1, 0));
        due("a place that is gone", x.list(1), BAD);
    }

    private static void groupsNone() {
        says("0: no such GROUP, or what.");
        Desk x = deskOf(7, 8);
        due("where none were made", x.groups(0, 1), 0);
        x.scale(0, 0, 0);
        x.group(0, 0);
        dueGroup(x, 1, 8, 1, 8, 1);
        for (int what = 0; what <= 3; what++) {
            due("group -1", x.groups(-1, what), 0);
            due("group 2 of 2", x.groups(2, what), 0);
            due("group 40", x.groups(40, what), 0);
        }
        due("what -1", x.groups(1, -1), 0);
        due("what 4", x.groups(1, 4), 0);
        for (int far : FAR) {
            due("group " + far, x.groups(far, 1), 0);
            due("what " + far, x.groups(1, far), 0);
            due("both " + far, x.groups(far, far), 0);
        }
    }

    private static void groupsInTheOrderTheyCame() {
        says("Of GROUP k, in the order in which they came");
        Desk x = deskOf(3, 1, 2, 1, 3);
        x.scale(0, 0, 0);
        x.order(4, 0, 0);
        due("group", x.group(0, 0), 3);
        dueGroup(x, 0, 3, 2, 6, 0);
        dueGroup(x, 1, 1, 2, 2, 1);
        dueGroup(x, 2, 2, 1, 2, 2);
        x.sort(x.order(1, 0, 0));
        due("group of the list, turned", x.group(0, 0), 3);
        dueGroup(x, 0, 3, 2, 6, 4);
        dueGroup(x, 1, 1, 2, 2, 3);
        dueGroup(x, 2, 2, 1, 2, 2);
        x.all();
        dueGroup(x, 0, 3, 2, 6, 4);
    }

    private static void countBad() {
        says("count: BAD.");
        Desk x = deskOfParts();
        due("count(-1)", x.count(-1), BAD);
        due("count(11)", x.count(11), BAD);
        for (int far : FAR) {
            due("count(" + far + ")", x.count(far), BAD);
        }
        int[] want = {2, 3, 2, 4, 2, 0, 0, 0, 0, 0, 0};
        for (int what = 0; what <= 10; what++) {
            due("count(" + what + ")", x.count(what), want[what]);
        }
    }

    private static void countOfLatestCall() {
        says("6 ASKINGS of the latest call that asked (also that FAILED; 0)");
        Desk x = deskOf(1, 2, 3);
        due("before any", x.count(6), 0);
        x.scale(0, 0, 0);
        int none = x.scale(11, 0, 0);
        x.sum(0);
        due("sum", x.count(6), 3);
        x.all();
        x.thing(1, 1, 1);
        x.tell(9, 0);
        x.scale(0, 0, 0);
        x.sieve(0, 0, 0);
        x.order(4, 0, 0);
        due("behind calls that do not ask", x.count(6), 3);
        x.group(0, none);
        due("behind one that FAILED", x.count(6), 2);
        x.scale(9, 0, 0);
        due("behind scale(9)", x.count(6), 1);
        x.sift(0);
        due("behind sift", x.count(6), 4);
        x.sort(0);
        due("behind sort", x.count(6), 3);
        x.sift(x.sieve(7, 0, 0));
        // As plainly read, a sum() is a call that asks, and of an empty list it asks nothing.
        x.sum(0);
        due("behind a call that had nothing to ask of", x.count(6), 0);
    }

    private static void countOfEver() {
        says("7 ASKINGS ever, 8 MET ever, 9 calls that FAILED");
        Desk x = deskOf(1, 2, 3);
        x.scale(0, 0, 0);
        int none = x.scale(11, 0, 0);
        int safe = x.sieve(8, x.sieve(9, 0, 0), 0);
        x.sum(0);
        x.tell(none, 0);
        x.scale(9, none, 0);
        x.scale(9, 0, 0);
        due("count(7)", x.count(7), 3 + 1 + 1 + 1);
        due("count(8)", x.count(8), 2);
        due("count(9)", x.count(9), 2);
        x.sift(safe);
        due("count(7)", x.count(7), 6 + 6);
        due("count(8)", x.count(8), 5);
        due("count(9)", x.count(9), 2);
        x.tell(99, 0);
        x.sift(0);
        due("count(7)", x.count(7), 12);
        due("count(9): BAD is not FAILED", x.count(9), 2);
    }

    private static void countLatestFailure() {
        says("10 the latest FAILURE of a call (0: none).");
        Desk x = deskOf(0, 8);
        due("before any", x.count(10), 0);
        int column = x.scale(0, 0, 0);
        int byIt = x.scale(4, column, column);
        int item = x.scale(7, column, 0);
        x.sift(x.sieve(3, x.sieve(8, x.sieve(9, 0, 0), 0), 0));
        due("what a sieve met is no call's", x.count(10), 0);
        x.tell(byIt, 0);
        due("ZERO", x.count(10), 1);
        x.tell(column, 0);
        due("behind a call that was done", x.count(10), 1);
        x.tell(item, 1);
        due("INDEX", x.count(10), 2);
        x.tell(99, 0);
        due("behind a BAD one", x.count(10), 2);
        x.scale(9, byIt, 0);
        due("ZERO, of scale(9)", x.count(10), 1);
        x.sum(x.scale(11, 0, 0));
        due("NONE", x.count(10), 3);
    }
}
