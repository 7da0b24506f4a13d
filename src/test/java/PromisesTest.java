import java.lang.reflect.Constructor;
import java.lang.reflect.Field;
import java.lang.reflect.Method;
import java.lang.reflect.Modifier;
import java.util.Set;
import java.util.TreeSet;

/** Each promise of the document: ordinary inputs, the edges that it names, and wrong inputs. */
public final class PromisesTest {
    private static final int BAD = -1, FULL = -2;
    private static final int ZERO = -11, INDEX = -12, NONE = -13, SPENT = -14;
    private static final int MANY = 2147483647, LOW = -2147483648;

    private static int wrong = 0;
    private static String part = "";

    public static void main(String[] args) {
        theFace();
        promise1NewObject();
        promise2Thing();
        promise3And4ChangeAndGet();
        promise5Item();
        promise6ScaleWrongNumbers();
        promise6ScaleFull();
        promise6ScaleNow();
        scaleColumnAndNumbers();
        scaleArithmetic();
        scaleBy();
        scaleWhere();
        scaleItemAndHeld();
        scaleTimesAsked();
        scaleAskedInTheOrderTold();
        promise7SieveWrongNumbers();
        promise7SieveFull();
        sieveComparing();
        sieveJoining();
        sieveEachAndFirst();
        sieveSafe();
        promise8OrderWrongNumbers();
        promise8OrderFull();
        ordersOfTwo();
        promise9All();
        promise10Tell();
        promise11Sift();
        promise12Sort();
        promise12SortFails();
        promise13Sum();
        promise14Group();
        promise14GroupFails();
        promise15Answer();
        promise16List();
        promise17Groups();
        promise18Count();
        failureSpent();
        failureKeepsCounts();
        failuresMetAreLimited();
        deepestNesting();
        System.out.println(wrong == 0 ? "all answers are as due" : wrong + " answers are not as due");
        if (wrong != 0) {
            System.exit(1);
        }
    }

    private static void due(String call, long got, long want) {
        if (got != want) {
            wrong++;
            System.out.println(part + ": " + call + " answered " + got + ", due is " + want);
        }
    }

    private static void dueList(SieveDesk x, int... things) {
        due("count(4)", x.count(4), things.length);
        for (int i = 0; i < things.length; i++) {
            due("list(" + i + ")", x.list(i), things[i]);
        }
        due("list behind the end", x.list(things.length), BAD);
    }

    private static void dueTold(SieveDesk x, int scale, int thing, long want) {
        due("tell(" + scale + ", " + thing + ")", x.tell(scale, thing), 1);
        due("answer() behind tell(" + scale + ", " + thing + ")", x.answer(), want);
    }

    /** A desk whose things have the values as column 0, their numbers as column 1, 0 as column 2. */
    private static SieveDesk deskOf(long... values) {
        SieveDesk x = new SieveDesk();
        for (int i = 0; i < values.length; i++) {
            x.thing(values[i], i, 0);
        }
        return x;
    }

    /** Whether a sieve holds for a thing, seen by a scale WHERE: 1 or 0, or the failed answer. */
    private static long holds(SieveDesk x, int sieve, int thing) {
        int one = x.scale(1, 1, 0);
        int told = x.tell(x.scale(6, sieve, one), thing);
        return told == 1 ? x.answer() : told;
    }

    private static void theFace() {
        part = "the face";
        due("BAD", SieveDesk.BAD, -1);
        due("FULL", SieveDesk.FULL, -2);
        due("FAILED", SieveDesk.FAILED, -10);
        Set<String> want = Set.of("BAD:int", "FULL:int", "FAILED:int", "new/0",
                "thing/3:int", "change/3:int", "get/2:long", "item/2:int", "scale/3:int",
                "sieve/3:int", "order/3:int", "all/0:int", "tell/2:int", "sift/1:int",
                "sort/1:int", "sum/1:int", "group/2:int", "answer/0:long", "list/1:int",
                "groups/2:long", "count/1:int");
        Set<String> got = new TreeSet<>();
        for (Field f : SieveDesk.class.getDeclaredFields()) {
            if (!Modifier.isPrivate(f.getModifiers())) {
                got.add(f.getName() + ":" + f.getType().getName());
            }
        }
        for (Constructor<?> c : SieveDesk.class.getDeclaredConstructors()) {
            got.add("new/" + c.getParameterCount());
        }
        for (Method m : SieveDesk.class.getDeclaredMethods()) {
            if (!Modifier.isPrivate(m.getModifiers())) {
                got.add(m.getName() + "/" + m.getParameterCount() + ":" + m.getReturnType().getName());
            }
        }
        due("the members, which are " + got, got.equals(want) ? 1 : 0, 1);
        due("a public final class", SieveDesk.class.getModifiers(), Modifier.PUBLIC | Modifier.FINAL);
    }

    private static void promise1NewObject() {
        part = "1 a new object";
        SieveDesk x = new SieveDesk();
        for (int what = 0; what <= 10; what++) {
            due("count(" + what + ")", x.count(what), 0);
        }
        dueList(x);
        due("answer()", x.answer(), 0);
        due("get(0, 0)", x.get(0, 0), 0);
        due("groups(0, 0)", x.groups(0, 0), 0);
        due("tell(0, 0)", x.tell(0, 0), BAD);
        due("sift(0)", x.sift(0), BAD);
        due("sort(0)", x.sort(0), BAD);
        due("sum(0)", x.sum(0), BAD);
        due("group(0, 0)", x.group(0, 0), BAD);
        due("all()", x.all(), 0);
        x.thing(0, 0, 0);
        for (int place = 0; place < 8; place++) {
            dueTold(x, x.scale(8, place, 0), 0, 0);
        }
        SieveDesk other = new SieveDesk();
        due("another object's count(0)", other.count(0), 0);
    }

    private static void promise2Thing() {
        part = "2 thing";
        SieveDesk x = new SieveDesk();
        due("thing", x.thing(Long.MIN_VALUE, 0, Long.MAX_VALUE), 0);
        due("get(0, 0)", x.get(0, 0), Long.MIN_VALUE);
        due("get(0, 1)", x.get(0, 1), 0);
        due("get(0, 2)", x.get(0, 2), Long.MAX_VALUE);
        due("thing", x.thing(1, 2, 3), 1);
        x.sieve(7, 0, 0);
        due("sift to none", x.sift(0), 0);
        due("thing", x.thing(4, 5, 6), 2);
        dueList(x, 2);
        x.all();
        x.order(4, 0, 0);
        x.order(1, 0, 0);
        due("sort backward", x.sort(1), 3);
        due("thing", x.thing(7, 8, 9), 3);
        dueList(x, 2, 1, 0, 3);
        for (int i = 4; i < 40; i++) {
            due("thing", x.thing(i, i + 100, i + 200), i);
        }
        due("thing 41", x.thing(1, 1, 1), FULL);
        due("count(0)", x.count(0), 40);
        due("count(4)", x.count(4), 40);
        due("get(39, 2)", x.get(39, 2), 239);
        due("get(39, 0)", x.get(39, 0), 39);
        due("get(38, 2)", x.get(38, 2), 238);
        due("thing 41 on a shorter list", x.sift(0) + x.thing(1, 1, 1), FULL);
        due("count(4)", x.count(4), 0);
    }

    private static void promise3And4ChangeAndGet() {
        part = "3 change, 4 get";
        SieveDesk x = new SieveDesk();
        due("change(0, 0, 5)", x.change(0, 0, 5), BAD);
        x.thing(1, 2, 3);
        x.thing(4, 5, 6);
        due("change(0, 2, -7)", x.change(0, 2, -7), 1);
        due("change(1, 0, max)", x.change(1, 0, Long.MAX_VALUE), 1);
        int[][] none = {{-1, 0}, {2, 0}, {0, -1}, {0, 3}, {MANY, 0}, {LOW, 2}, {1, MANY}, {1, LOW}};
        for (int[] at : none) {
            due("change(" + at[0] + ", " + at[1] + ", 9)", x.change(at[0], at[1], 9), BAD);
            due("get(" + at[0] + ", " + at[1] + ")", x.get(at[0], at[1]), 0);
        }
        long[] want = {1, 2, -7, Long.MAX_VALUE, 5, 6};
        for (int i = 0; i < 6; i++) {
            due("get(" + i / 3 + ", " + i % 3 + ")", x.get(i / 3, i % 3), want[i]);
        }
        x.scale(0, 2, 0);
        dueTold(x, 0, 0, -7);
        x.change(0, 2, 8);
        dueTold(x, 0, 0, 8);
    }

    private static void promise5Item() {
        part = "5 item";
        SieveDesk x = new SieveDesk();
        for (int i = 0; i < 8; i++) {
            due("item(" + i + ")", x.item(i, 10 + i), 1);
            x.thing(i, 0, 0);
        }
        for (int i : new int[] {-1, 8, MANY, LOW}) {
            due("item(" + i + ")", x.item(i, 99), BAD);
        }
        x.scale(0, 0, 0);
        x.scale(7, 0, 0);
        for (int i = 0; i < 8; i++) {
            dueTold(x, 1, i, 10 + i);
        }
        due("item(7, min)", x.item(7, Long.MIN_VALUE), 1);
        dueTold(x, 1, 7, Long.MIN_VALUE);
    }

    private static void promise6ScaleWrongNumbers() {
        part = "6 scale, wrong numbers";
        SieveDesk x = deskOf(1, 2);
        x.scale(0, 0, 0);
        x.sieve(0, 0, 0);
        x.sieve(0, 0, 0);
        int[][] bad = {{-1, 0, 0}, {12, 0, 0}, {MANY, 0, 0}, {LOW, 0, 0},
            {0, -1, 0}, {0, 3, 0}, {8, -1, 0}, {8, 8, 0}, {7, 1, 0}, {7, -1, 0},
            {2, 1, 0}, {3, 1, 0}, {4, 1, 0}, {5, 1, 0}, {2, 0, 1}, {3, 0, 1}, {4, 0, 1}, {5, 0, 1},
            {2, -1, 0}, {5, 0, -1}, {6, 2, 0}, {6, -1, 0}, {6, 0, 1}, {6, 0, -1}, {6, 1, 1},
            {9, 1, 0}, {9, -1, 0}, {9, 0, 2}, {9, 0, -1}};
        for (int[] s : bad) {
            due("scale(" + s[0] + ", " + s[1] + ", " + s[2] + ")", x.scale(s[0], s[1], s[2]), BAD);
        }
        due("count(1)", x.count(1), 1);
        due("count(7)", x.count(7), 0);
        int[][] good = {{0, 2, -9}, {1, LOW, MANY}, {2, 0, 1}, {3, 2, 0}, {4, 0, 0}, {5, 4, 5},
            {6, 1, 6}, {7, 7, 99}, {8, 7, -1}, {9, 0, 1}, {10, MANY, LOW}, {11, -5, 99}};
        for (int i = 0; i < good.length; i++) {
            due("scale of kind " + i, x.scale(good[i][0], good[i][1], good[i][2]), i + 1);
        }
        due("count(1)", x.count(1), 13);
    }

    private static void promise6ScaleFull() {
        part = "6 scale, full";
        SieveDesk x = deskOf(1);
        for (int i = 0; i < 24; i++) {
            due("scale", x.scale(1, i, 0), i);
        }
        due("the 25th", x.scale(1, 0, 0), FULL);
        due("the 25th, of 9", x.scale(9, 0, 0), FULL);
        due("the 25th, of no kind", x.scale(12, 0, 0), BAD);
        due("the 25th, of no column", x.scale(0, 3, 0), BAD);
        due("count(1)", x.count(1), 24);
        due("count(7)", x.count(7), 0);
        dueTold(x, 23, 0, 23);
    }

    private static void promise6ScaleNow() {
        part = "6 scale, NOW";
        SieveDesk x = deskOf(6, 0, 3);
        x.scale(0, 0, 0);
        x.scale(2, 0, 0);
        due("scale(9, 1, 2)", x.scale(9, 1, 2), 2);
        due("count(6)", x.count(6), 3);
        due("answer() is not touched", x.answer(), 0);
        x.change(2, 0, 100);
        dueTold(x, 2, 0, 6);
        due("count(6): what it held is not asked again", x.count(6), 1);
        dueTold(x, 2, 1, 6);
        x.scale(4, 1, 0);
        due("scale(9, 3, 1)", x.scale(9, 3, 1), ZERO);
        due("count(1)", x.count(1), 4);
        due("count(6)", x.count(6), 5);
        due("count(8)", x.count(8), 1);
        due("count(9)", x.count(9), 1);
        due("count(10)", x.count(10), 1);
        due("scale(10, 1, 0)", x.scale(10, 1, 0), 4);
        due("scale(9, 4, 0)", x.scale(9, 4, 0), 5);
        due("scale(9, 4, 0)", x.scale(9, 4, 0), 6);
        dueTold(x, 5, 0, 0);
        dueTold(x, 6, 0, 1);
        dueTold(x, 4, 0, 2);
    }

    private static void scaleColumnAndNumbers() {
        part = "scales 0, 1";
        SieveDesk x = new SieveDesk();
        x.thing(1, 2, 3);
        x.thing(4, 5, 6);
        for (int column = 0; column < 3; column++) {
            x.scale(0, column, 0);
            dueTold(x, column, 0, 1 + column);
            dueTold(x, column, 1, 4 + column);
        }
        due("count(6)", x.count(6), 1);
        dueTold(x, x.scale(1, MANY, MANY), 0, 4294967294L);
        dueTold(x, x.scale(1, LOW, LOW), 0, -4294967296L);
        dueTold(x, x.scale(1, -3, 2), 1, -1);
    }

    private static void scaleArithmetic() {
        part = "scales 2, 3, 5";
        SieveDesk x = new SieveDesk();
        x.thing(7, -3, 0);
        x.thing(Long.MAX_VALUE, 2, 0);
        x.thing(Long.MIN_VALUE, -1, 0);
        x.scale(0, 0, 0);
        x.scale(0, 1, 0);
        int sum = x.scale(2, 0, 1);
        dueTold(x, sum, 0, 4);
        dueTold(x, sum, 1, Long.MIN_VALUE + 1);
        dueTold(x, sum, 2, Long.MAX_VALUE);
        int times = x.scale(3, 0, 1);
        dueTold(x, times, 0, -21);
        dueTold(x, times, 1, -2);
        dueTold(x, times, 2, Long.MIN_VALUE);
        int less = x.scale(5, 0, 1);
        dueTold(x, less, 0, -3);
        dueTold(x, less, 1, 2);
        dueTold(x, less, 2, Long.MIN_VALUE);
        dueTold(x, x.scale(5, 1, 0), 0, -3);
        due("count(6)", x.count(6), 3);
    }

    private static void scaleBy() {
        part = "scale 4";
        SieveDesk x = new SieveDesk();
        x.thing(7, 2, 0);
        x.thing(-7, 2, 0);
        x.thing(7, -2, 0);
        x.thing(Long.MIN_VALUE, -1, 0);
        x.thing(0, 0, 0);
        x.scale(0, 0, 0);
        x.scale(0, 1, 0);
        x.scale(4, 0, 1);
        dueTold(x, 2, 0, 3);
        dueTold(x, 2, 1, -3);
        dueTold(x, 2, 2, -3);
        dueTold(x, 2, 3, Long.MIN_VALUE);
        due("tell(2, 4)", x.tell(2, 4), ZERO);
        due("count(6)", x.count(6), 3);
        due("answer()", x.answer(), Long.MIN_VALUE);
        dueTold(x, x.scale(4, 1, 0), 0, 0);
    }

    private static void scaleWhere() {
        part = "scale 6";
        SieveDesk x = deskOf(5, 6, 7);
        x.scale(0, 0, 0);
        x.sieve(7, 1, 0);
        x.scale(6, 0, 0);
        dueTold(x, 1, 0, 5);
        due("count(6)", x.count(6), 3);
        dueTold(x, 1, 1, 0);
        due("count(6)", x.count(6), 2);
        x.scale(11, 0, 0);
        x.scale(6, 0, 2);
        due("tell(3, 0)", x.tell(3, 0), NONE);
        dueTold(x, 3, 2, 0);
        x.sieve(9, 0, 0);
        x.scale(6, 1, 0);
        due("tell(4, 0)", x.tell(4, 0), NONE);
        due("count(6)", x.count(6), 2);
    }

    private static void scaleItemAndHeld() {
        part = "scales 7, 8";
        SieveDesk x = deskOf(0, 7, 8, -1, 1L << 32, Long.MIN_VALUE, Long.MAX_VALUE, (1L << 32) + 7);
        x.item(0, 30);
        x.item(7, 37);
        x.scale(0, 0, 0);
        x.scale(7, 0, 0);
        x.scale(8, 7, 0);
        dueTold(x, 1, 0, 30);
        due("count(6)", x.count(6), 2);
        dueTold(x, 1, 1, 37);
        for (int thing = 2; thing < 8; thing++) {
            due("tell(1, " + thing + ")", x.tell(1, thing), INDEX);
        }
        x.item(7, 38);
        dueTold(x, 1, 1, 38);
        dueTold(x, 2, 1, 37);
        due("count(6)", x.count(6), 1);
        dueTold(x, x.scale(8, 7, 0), 0, 38);
        dueTold(x, x.scale(8, 0, 0), 0, 30);
    }

    private static void scaleTimesAsked() {
        part = "scale 10";
        SieveDesk x = deskOf(1, 2);
        x.scale(10, -3, 10);
        x.scale(10, MANY, MANY);
        x.scale(2, 0, 0);
        dueTold(x, 0, 0, 10);
        dueTold(x, 0, 1, 7);
        dueTold(x, 2, 0, 4 + 1);
        dueTold(x, 0, 0, -2);
        dueTold(x, 1, 0, MANY);
        dueTold(x, 1, 0, 2L * MANY);
        dueTold(x, 1, 0, 3L * MANY);
        dueTold(x, x.scale(10, 0, 4), 0, 4);
        dueTold(x, 3, 0, 4);
    }

    /** By kind: of two parts that fail in ways of their own, the one told first ends the call. */
    private static void scaleAskedInTheOrderTold() {
        part = "asked in the order told";
        SieveDesk x = deskOf(0, 9);
        x.scale(0, 0, 0);
        x.scale(4, 0, 0);
        x.scale(11, 0, 0);
        for (int kind = 2; kind <= 5; kind++) {
            due("kind " + kind, x.tell(x.scale(kind, 1, 2), 0), ZERO);
            due("kind " + kind, x.tell(x.scale(kind, 2, 1), 0), NONE);
            due("count(6)", x.count(6), 2);
        }
        x.sieve(1, 1, 2);
        x.sieve(1, 2, 1);
        x.sieve(2, 1, 2);
        x.sieve(2, 2, 1);
        for (int s = 0; s < 4; s++) {
            due("sift(" + s + ")", x.sift(s), s % 2 == 0 ? ZERO : NONE);
        }
        x.scale(10, 1, 0);
        int fromCount = x.scale(2, x.count(1) - 1, 2);
        due("a counting scale, then NOTHING", x.tell(fromCount, 0), NONE);
        dueTold(x, fromCount - 1, 0, 1);
        int toCount = x.scale(2, 2, fromCount - 1);
        due("NOTHING, then a counting scale", x.tell(toCount, 0), NONE);
        dueTold(x, fromCount - 1, 0, 2);
    }

    private static void promise7SieveWrongNumbers() {
        part = "7 sieve, wrong numbers";
        SieveDesk x = deskOf(1);
        x.scale(0, 0, 0);
        x.scale(0, 0, 0);
        x.sieve(0, 0, 0);
        int[][] bad = {{-1, 0, 0}, {10, 0, 0}, {MANY, 0, 0}, {LOW, 0, 0},
            {1, 2, 0}, {1, 0, 2}, {1, -1, 0}, {1, 0, -1}, {2, 2, 0}, {2, 0, 2}, {2, -1, 0}, {2, 0, -1},
            {3, 1, 0}, {3, -1, 0}, {4, 1, 0}, {4, 0, 1}, {4, -1, 0}, {4, 0, -1},
            {5, 1, 0}, {5, 0, 1}, {5, -1, 0}, {5, 0, -1}, {8, 1, 0}, {8, -1, 0}};
        for (int[] s : bad) {
            due("sieve(" + s[0] + ", " + s[1] + ", " + s[2] + ")", x.sieve(s[0], s[1], s[2]), BAD);
        }
        due("count(2)", x.count(2), 1);
        int[][] good = {{0, -1, 99}, {1, 1, 0}, {2, 0, 1}, {3, 0, -1}, {4, 1, 0}, {5, 0, 1},
            {6, LOW, 9}, {7, MANY, -1}, {8, 0, -1}, {9, -1, -1}};
        for (int i = 0; i < good.length; i++) {
            due("sieve of kind " + i, x.sieve(good[i][0], good[i][1], good[i][2]), i + 1);
        }
        due("count(2)", x.count(2), 11);
        due("count(7)", x.count(7), 0);
    }

    private static void promise7SieveFull() {
        part = "7 sieve, full";
        SieveDesk x = deskOf(1);
        for (int i = 0; i < 24; i++) {
            due("sieve", x.sieve(0, 0, 0), i);
        }
        due("the 25th", x.sieve(0, 0, 0), FULL);
        due("the 25th, of no kind", x.sieve(10, 0, 0), BAD);
        due("the 25th, of no sieve", x.sieve(3, 24, 0), BAD);
        due("count(2)", x.count(2), 24);
        due("sift(23)", x.sift(23), 1);
    }

    private static void sieveComparing() {
        part = "sieves 0, 1, 2";
        SieveDesk x = new SieveDesk();
        x.thing(3, 2, 0);
        x.thing(2, 2, 0);
        x.thing(Long.MIN_VALUE, Long.MAX_VALUE, 0);
        x.thing(1L << 32, 0, 0);
        x.scale(0, 0, 0);
        x.scale(0, 1, 0);
        x.sieve(0, 0, 0);
        x.sieve(1, 0, 1);
        x.sieve(2, 0, 1);
        due("sift(0)", x.sift(0), 4);
        due("count(6)", x.count(6), 4);
        due("sift(1)", x.sift(1), 2);
        due("count(6)", x.count(6), 12);
        dueList(x, 0, 3);
        x.all();
        due("sift(2)", x.sift(2), 1);
        dueList(x, 1);
    }

    private static void sieveJoining() {
        part = "sieves 3, 4, 5";
        SieveDesk x = deskOf(1, 2);
        int yes = x.sieve(0, 0, 0);
        int no = x.sieve(3, yes, 0);
        int none = x.sieve(9, 0, 0);
        due("NOT", holds(x, no, 0), 0);
        due("NOT NOT", holds(x, x.sieve(3, no, 0), 0), 1);
        due("BOTH yes yes", holds(x, x.sieve(4, yes, yes), 0), 1);
        due("BOTH yes no", holds(x, x.sieve(4, yes, no), 0), 0);
        due("BOTH no, not asked", holds(x, x.sieve(4, no, none), 0), 0);
        due("BOTH yes, asked", holds(x, x.sieve(4, yes, none), 0), NONE);
        due("EITHER no yes", holds(x, x.sieve(5, no, yes), 0), 1);
        due("EITHER no no", holds(x, x.sieve(5, no, no), 0), 0);
        due("EITHER yes, not asked", holds(x, x.sieve(5, yes, none), 0), 1);
        due("EITHER no, asked", holds(x, x.sieve(5, no, none), 0), NONE);
        due("NOT of what fails", holds(x, x.sieve(3, none, 0), 0), NONE);
    }

    private static void sieveEachAndFirst() {
        part = "sieves 6, 7";
        SieveDesk x = deskOf(0, 1, 2, 3, 4, 5, 6);
        x.sieve(6, 3, 0);
        due("sift(0)", x.sift(0), 2);
        dueList(x, 2, 5);
        x.all();
        due("sift(0), which was asked 7 times", x.sift(0), 2);
        dueList(x, 1, 4);
        for (int every : new int[] {1, 0, -1, LOW}) {
            x.all();
            due("sift of EACH " + every, x.sift(x.sieve(6, every, 0)), 7);
        }
        due("sift of EACH max", x.sift(x.sieve(6, MANY, 0)), 0);
        x.all();
        due("sift of FIRST 3", x.sift(x.sieve(7, 3, 0)), 3);
        dueList(x, 0, 1, 2);
        due("sift of FIRST max", x.sift(x.sieve(7, MANY, 0)), 3);
        due("sift of FIRST -1", x.sift(x.sieve(7, -1, 0)), 0);
    }

    private static void sieveSafe() {
        part = "sieve 8";
        SieveDesk x = deskOf(4, 0, 9);
        x.scale(0, 0, 0);
        x.scale(4, 0, 0);
        x.scale(7, 0, 0);
        int zero = x.sieve(2, 1, 1);
        int index = x.sieve(2, 2, 2);
        int none = x.sieve(9, 0, 0);
        due("sift, not safe", x.sift(zero), ZERO);
        dueList(x, 0, 1, 2);
        due("sift, ZERO met", x.sift(x.sieve(8, zero, 0)), 2);
        dueList(x, 0, 2);
        due("count(6)", x.count(6), 18 + 3);
        due("count(8)", x.count(8), 2);
        due("count(9)", x.count(9), 1);
        x.all();
        due("sift, INDEX met", x.sift(x.sieve(8, index, 0)), 2);
        dueList(x, 0, 1);
        x.all();
        int safe = x.sieve(8, none, 0);
        due("sift, NONE met", x.sift(safe), 0);
        due("count(8)", x.count(8), 6);
        due("count(9)", x.count(9), 1);
        due("count(10)", x.count(10), 1);
        x.all();
        due("NOT of a met failure holds", x.sift(x.sieve(3, safe, 0)), 3);
        due("a safe one met once, not by the outer", x.sift(x.sieve(8, safe, 0)), 0);
        due("count(8)", x.count(8), 12);
        x.all();
        int inner = x.sieve(3, none, 0);
        due("NOT inside is not what holds", x.sift(x.sieve(8, inner, 0)), 0);
        x.all();
        due("goes on behind what is met", x.sift(x.sieve(5, safe, x.sieve(7, 1, 0))), 1);
        dueList(x, 0);
        due("a safe one that holds not", x.sift(x.sieve(8, x.sieve(7, 0, 0), 0)), 0);
        due("count(8)", x.count(8), 18);
    }

    private static void promise8OrderWrongNumbers() {
        part = "8 order, wrong numbers";
        SieveDesk x = deskOf(1);
        x.scale(0, 0, 0);
        x.scale(0, 0, 0);
        x.scale(0, 0, 0);
        x.sieve(0, 0, 0);
        x.sieve(0, 0, 0);
        x.order(4, 0, 0);
        int[][] bad = {{-1, 0, 0}, {6, 0, 0}, {MANY, 0, 0}, {LOW, 0, 0}, {0, 3, 0}, {0, -1, 0},
            {1, 1, 0}, {1, -1, 0}, {2, 1, 0}, {2, 0, 1}, {2, -1, 0}, {2, 0, -1}, {3, 2, 0}, {3, -1, 0}};
        for (int[] o : bad) {
            due("order(" + o[0] + ", " + o[1] + ", " + o[2] + ")", x.order(o[0], o[1], o[2]), BAD);
        }
        due("count(3)", x.count(3), 1);
        int[][] good = {{0, 2, -1}, {1, 1, 99}, {2, 1, 2}, {3, 1, -1}, {4, -1, 99}, {5, 99, -1}};
        for (int i = 0; i < good.length; i++) {
            due("order of kind " + i, x.order(good[i][0], good[i][1], good[i][2]), i + 1);
        }
        due("count(3)", x.count(3), 7);
        due("count(7)", x.count(7), 0);
    }

    private static void promise8OrderFull() {
        part = "8 order, full";
        SieveDesk x = deskOf(1, 2);
        for (int i = 0; i < 24; i++) {
            due("order", x.order(4, 0, 0), i);
        }
        due("the 25th", x.order(4, 0, 0), FULL);
        due("the 25th, of no kind", x.order(6, 0, 0), BAD);
        due("the 25th, of no order", x.order(1, 24, 0), BAD);
        due("count(3)", x.count(3), 24);
        due("sort(23)", x.sort(23), 0);
    }

    private static void ordersOfTwo() {
        part = "orders";
        SieveDesk x = deskOf(Long.MAX_VALUE, Long.MIN_VALUE, 5, 5);
        x.scale(0, 0, 0);
        x.sieve(7, 2, 0);
        int rising = x.order(0, 0, 0);
        due("RISING", x.sort(rising), 3);
        dueList(x, 1, 2, 3, 0);
        int byNumber = x.order(4, 0, 0);
        int falling = x.order(1, byNumber, 0);
        int then = x.order(2, rising, falling);
        due("THEN, falling by number", x.sort(then), 1);
        dueList(x, 1, 3, 2, 0);
        // Three pairs that RISING tells apart: 4 askings each; and (2, 3), that takes two more.
        due("count(6)", x.count(6), 3 * 4 + 6);
        due("TURNED", x.sort(x.order(1, rising, 0)), 5);
        dueList(x, 0, 3, 2, 1);
        int before = x.order(3, 0, 0);
        due("BEFORE", x.sort(before), 2);
        dueList(x, 0, 1, 3, 2);
        due("BY NUMBER", x.sort(byNumber), 1);
        dueList(x, 0, 1, 2, 3);
        due("BEFORE asks of both", x.sort(before) + 100 * x.count(6), 900);
        due("NOTHING", x.sort(x.order(5, 0, 0)), NONE);
        due("count(6)", x.count(6), 1);
        int thenNone = x.order(2, byNumber, x.count(3) - 1);
        due("THEN, NOTHING where the first tells 0", x.sort(thenNone), 0);
    }

    private static void promise9All() {
        part = "9 all";
        SieveDesk x = deskOf(3, 1, 2);
        x.scale(0, 0, 0);
        x.order(0, 0, 0);
        x.sort(0);
        dueList(x, 1, 2, 0);
        due("all()", x.all(), 3);
        dueList(x, 0, 1, 2);
        x.sieve(7, 0, 0);
        x.sift(0);
        due("all()", x.all(), 3);
        dueList(x, 0, 1, 2);
        due("count(6): all() asks nothing", x.count(6), 3);
    }

    private static void promise10Tell() {
        part = "10 tell";
        SieveDesk x = deskOf(3, 1);
        x.scale(0, 0, 0);
        x.scale(11, 0, 0);
        dueTold(x, 0, 1, 1);
        due("tell(-1, 0)", x.tell(-1, 0), BAD);
        due("tell(2, 0)", x.tell(2, 0), BAD);
        due("tell(0, -1)", x.tell(0, -1), BAD);
        due("tell(0, 2)", x.tell(0, 2), BAD);
        due("tell(1, 2)", x.tell(1, 2), BAD);
        due("count(9)", x.count(9), 0);
        due("count(6)", x.count(6), 1);
        due("tell(1, 0)", x.tell(1, 0), NONE);
        due("answer()", x.answer(), 1);
        x.sieve(7, 0, 0);
        x.sift(0);
        dueTold(x, 0, 0, 3);
    }

    private static void promise11Sift() {
        part = "11 sift";
        SieveDesk x = deskOf(5, 0, 7, 0, 9);
        x.scale(0, 0, 0);
        x.scale(1, 0, 0);
        x.sieve(1, 0, 1);
        x.order(4, 0, 0);
        x.order(1, 0, 0);
        x.sort(1);
        due("sift(0)", x.sift(0), 3);
        dueList(x, 4, 2, 0);
        due("sift(0) again", x.sift(0), 3);
        due("sift(-1)", x.sift(-1), BAD);
        due("sift(1)", x.sift(1), BAD);
        due("EACH in the list's order", x.sift(x.sieve(6, 2, 0)), 1);
        dueList(x, 2);
        x.all();
        x.scale(4, 1, 0);
        x.sieve(2, 2, 1);
        due("sift(2) fails at the second", x.sift(2), ZERO);
        dueList(x, 0, 1, 2, 3, 4);
        due("count(6)", x.count(6), 5 + 4);
    }

    private static void promise12Sort() {
        part = "12 sort";
        SieveDesk x = deskOf(2, 1, 2, 1, 0);
        x.scale(0, 0, 0);
        x.order(0, 0, 0);
        due("sort(0)", x.sort(0), 7);
        dueList(x, 4, 1, 3, 0, 2);
        due("sort(0) again", x.sort(0), 0);
        due("count(6)", x.count(6), 12);
        due("sort(-1)", x.sort(-1), BAD);
        due("sort(1)", x.sort(1), BAD);
        SieveDesk one = deskOf(4);
        one.order(5, 0, 0);
        due("sort of one thing", one.sort(0), 0);
        due("count(6)", one.count(6), 0);
        // A scale that tells less each time it is asked tells 1 of every two.
        SieveDesk y = deskOf(0, 0, 0, 0);
        y.scale(10, -1, 0);
        y.order(0, 0, 0);
        due("an order that turns all", y.sort(0), 6);
        dueList(y, 3, 2, 1, 0);
    }

    private static void promise12SortFails() {
        part = "12 sort, failing";
        SieveDesk x = deskOf(9, 5, 1, 0, 7);
        x.scale(1, 1, 0);
        x.scale(0, 0, 0);
        x.scale(4, 0, 1);
        x.scale(3, 1, 2);
        x.order(0, 1, 0);
        x.order(0, 2, 0);
        x.order(2, 0, 1);
        due("sort(2), of which RISING tells all", x.sort(2), 7);
        x.all();
        due("sort(1)", x.sort(1), ZERO);
        dueList(x, 0, 1, 2, 3, 4);
        x.order(1, 0, 0);
        x.scale(2, 1, 2);
        x.order(0, 4, 0);
        due("sort(4), failing behind moves", x.sort(4), ZERO);
        dueList(x, 0, 1, 2, 3, 4);
        due("count(9)", x.count(9), 2);
    }

    private static void promise13Sum() {
        part = "13 sum";
        SieveDesk x = deskOf(5, 6, Long.MAX_VALUE, 0);
        x.scale(0, 0, 0);
        due("sum(0)", x.sum(0), 1);
        due("answer()", x.answer(), Long.MIN_VALUE + 10);
        due("count(6)", x.count(6), 4);
        x.sieve(7, 2, 0);
        x.sift(0);
        due("sum(0)", x.sum(0), 1);
        due("answer()", x.answer(), 11);
        due("sum(-1)", x.sum(-1), BAD);
        due("sum(1)", x.sum(1), BAD);
        x.scale(11, 0, 0);
        due("sum(1)", x.sum(1), NONE);
        due("answer()", x.answer(), 11);
        x.sieve(7, 0, 0);
        x.sift(1);
        due("sum(1) of no things", x.sum(1), 1);
        due("answer()", x.answer(), 0);
        // In the list's order: 0 * 1, then 10 * 2 if thing 1 comes first.
        SieveDesk y = deskOf(2, 1);
        y.scale(0, 0, 0);
        y.scale(10, 10, 0);
        y.scale(3, 0, 1);
        y.order(0, 0, 0);
        y.sort(0);
        y.sum(2);
        due("answer()", y.answer(), 20);
    }

    private static void promise14Group() {
        part = "14 group";
        SieveDesk x = new SieveDesk();
        x.thing(7, 10, 0);
        x.thing(-7, 20, 0);
        x.thing(7, Long.MAX_VALUE, 0);
        x.thing((1L << 32) + 7, 5, 0);
        x.scale(0, 0, 0);
        x.scale(0, 1, 0);
        x.order(4, 0, 0);
        x.order(1, 0, 0);
        x.sort(1);
        due("group(0, 1)", x.group(0, 1), 3);
        due("count(6)", x.count(6), 8);
        dueGroup(x, 0, (1L << 32) + 7, 1, 5, 3);
        dueGroup(x, 1, 7, 2, Long.MIN_VALUE + 9, 2);
        dueGroup(x, 2, -7, 1, 20, 1);
        dueGroup(x, 3, 0, 0, 0, 0);
        due("group(-1, 0)", x.group(-1, 0), BAD);
        due("group(0, -1)", x.group(0, -1), BAD);
        due("group(2, 0)", x.group(2, 0), BAD);
        due("group(0, 2)", x.group(0, 2), BAD);
        due("count(5)", x.count(5), 3);
        x.scale(1, 3, 0);
        due("group(2, 2)", x.group(2, 2), 1);
        dueGroup(x, 0, 3, 4, 12, 3);
        dueGroup(x, 1, 0, 0, 0, 0);
        due("group(0, 2): nothing is left of those before", x.group(0, 2), 3);
        dueGroup(x, 0, (1L << 32) + 7, 1, 3, 3);
        dueGroup(x, 1, 7, 2, 6, 2);
        dueGroup(x, 2, -7, 1, 3, 1);
        x.sieve(7, 0, 0);
        x.sift(0);
        due("group of no things", x.group(0, 1), 0);
        due("count(5)", x.count(5), 0);
        dueGroup(x, 0, 0, 0, 0, 0);
        SieveDesk y = new SieveDesk();
        for (int i = 0; i < 40; i++) {
            y.thing(i, 0, 0);
        }
        y.scale(0, 0, 0);
        due("40 groups", y.group(0, 0), 40);
        dueGroup(y, 39, 39, 1, 39, 39);
        // One scale is both, and counts: the key is asked first of each thing.
        SieveDesk z = deskOf(0, 0);
        z.scale(10, 1, 0);
        due("group(0, 0)", z.group(0, 0), 2);
        dueGroup(z, 0, 0, 1, 1, 0);
        dueGroup(z, 1, 2, 1, 3, 1);
    }

    private static void dueGroup(SieveDesk x, int k, long key, long many, long sum, long first) {
        due("groups(" + k + ", 0)", x.groups(k, 0), key);
        due("groups(" + k + ", 1)", x.groups(k, 1), many);
        due("groups(" + k + ", 2)", x.groups(k, 2), sum);
        due("groups(" + k + ", 3)", x.groups(k, 3), first);
    }

    private static void promise14GroupFails() {
        part = "14 group, failing";
        SieveDesk x = deskOf(4, 4, 0);
        x.scale(0, 0, 0);
        x.scale(4, 0, 0);
        x.scale(11, 0, 0);
        x.group(0, 0);
        due("group(0, 1)", x.group(0, 1), ZERO);
        due("count(6)", x.count(6), 3 * 4);
        due("count(5)", x.count(5), 2);
        dueGroup(x, 0, 4, 2, 8, 0);
        dueGroup(x, 1, 0, 1, 0, 2);
        due("group(2, 1)", x.group(2, 1), NONE);
        due("count(6)", x.count(6), 1);
        dueGroup(x, 0, 4, 2, 8, 0);
        x.change(0, 0, 99);
        dueGroup(x, 0, 4, 2, 8, 0);
    }

    private static void promise15Answer() {
        part = "15 answer";
        SieveDesk x = deskOf(4, 6);
        x.scale(0, 0, 0);
        x.scale(11, 0, 0);
        x.tell(0, 0);
        x.tell(1, 0);
        x.tell(9, 0);
        due("answer() behind a tell() that failed", x.answer(), 4);
        x.sum(0);
        due("answer() of sum()", x.answer(), 10);
        x.sum(1);
        x.sum(9);
        x.group(0, 0);
        x.scale(9, 0, 1);
        x.change(0, 0, 1);
        due("answer() behind others", x.answer(), 10);
    }

    private static void promise16List() {
        part = "16 list";
        SieveDesk x = deskOf(4, 6);
        dueList(x, 0, 1);
        for (int place : new int[] {-1, 2, 39, 40, MANY, LOW}) {
            due("list(" + place + ")", x.list(place), BAD);
        }
        x.sieve(7, 1, 0);
        x.sift(0);
        dueList(x, 0);
    }

    private static void promise17Groups() {
        part = "17 groups";
        SieveDesk x = deskOf(4, 6, 4);
        x.scale(0, 0, 0);
        x.scale(0, 1, 0);
        x.group(0, 1);
        dueGroup(x, 0, 4, 2, 2, 0);
        dueGroup(x, 1, 6, 1, 1, 1);
        for (int k : new int[] {-1, 2, 40, MANY, LOW}) {
            dueGroup(x, k, 0, 0, 0, 0);
        }
        for (int what : new int[] {-1, 4, MANY, LOW}) {
            due("groups(0, " + what + ")", x.groups(0, what), 0);
        }
    }

    private static void promise18Count() {
        part = "18 count";
        SieveDesk x = deskOf(4, 6, 0);
        x.scale(0, 0, 0);
        x.scale(4, 0, 0);
        x.sieve(2, 1, 1);
        x.sieve(8, 0, 0);
        x.sieve(7, 2, 0);
        x.sieve(0, 0, 0);
        for (int i = 0; i < 5; i++) {
            x.order(4, 0, 0);
        }
        x.tell(1, 2);
        x.sift(1);
        x.group(0, 0);
        // ASKINGS ever: tell() 3; sift() 8 of each but the last thing, of that 5; group() 4.
        long[] want = {3, 2, 4, 5, 2, 2, 4, 3 + 21 + 4, 2, 1, 1};
        for (int what = 0; what <= 10; what++) {
            due("count(" + what + ")", x.count(what), want[what]);
        }
        for (int what : new int[] {-1, 11, MANY, LOW}) {
            due("count(" + what + ")", x.count(what), BAD);
        }
        x.tell(99, 0);
        due("count(6) behind a BAD call", x.count(6), 4);
        due("count(10) behind calls that were done", x.count(10), 1);
        x.scale(11, 0, 0);
        x.sum(2);
        due("count(6) behind a FAILED call", x.count(6), 1);
        due("count(10)", x.count(10), 3);
        due("count(9)", x.count(9), 2);
        x.sieve(7, 0, 0);
        x.sift(4);
        due("count(6)", x.count(6), 2);
        x.sum(0);
        due("count(6) behind a call on an empty list", x.count(6), 0);
    }

    /** Scale 0 tells a number, scale k is the SUM of scale k - 1 and itself: it asks 2^(k+1) - 1. */
    private static SieveDesk deskOfDoublings(int number, int many) {
        SieveDesk x = deskOf(1, 2, 3);
        x.scale(1, number, 0);
        for (int k = 1; k <= many; k++) {
            x.scale(2, k - 1, k - 1);
        }
        return x;
    }

    private static void failureSpent() {
        part = "SPENT";
        SieveDesk x = deskOfDoublings(1, 10);
        dueTold(x, 9, 0, 512);
        due("count(6)", x.count(6), 1023);
        due("tell(10, 0)", x.tell(10, 0), SPENT);
        due("count(6)", x.count(6), 2000);
        due("count(7)", x.count(7), 3023);
        due("count(10)", x.count(10), 4);
        due("answer()", x.answer(), 512);
        int spent = x.sieve(2, 10, 0);
        due("SAFE meets no SPENT", x.sift(x.sieve(8, spent, 0)), SPENT);
        dueList(x, 0, 1, 2);
        due("count(8)", x.count(8), 2);
        due("count(9)", x.count(9), 2);
        due("count(6)", x.count(6), 2000);
        spentExactly();
        spentByOrders();
    }

    private static void spentExactly() {
        SieveDesk x = deskOfDoublings(0, 9);
        int last = 9;
        for (int part : new int[] {8, 7, 6, 5, 3}) {
            last = x.scale(2, last, part);
        }
        dueTold(x, last, 0, 0);
        due("count(6)", x.count(6), 1999);
        int whole = x.scale(7, last, 0);
        dueTold(x, whole, 0, 0);
        due("count(6)", x.count(6), 2000);
        due("tell of 2001", x.tell(x.scale(7, whole, 0), 0), SPENT);
        due("count(6)", x.count(6), 2000);
        due("each call has 2000 anew", x.tell(whole, 0), 1);
        due("sum, at the second thing", x.sum(whole), SPENT);
        due("count(6)", x.count(6), 2000);
        // A count that would be the 2001st asking is not begun.
        int counting = x.scale(10, 1, 0);
        due("tell", x.tell(x.scale(2, last, counting), 0), SPENT);
        dueTold(x, counting, 0, 0);
    }

    private static void spentByOrders() {
        SieveDesk x = new SieveDesk();
        for (int i = 0; i < 40; i++) {
            x.thing(-i, 0, 0);
        }
        x.scale(0, 0, 0);
        x.order(0, 0, 0);
        due("sort of 780 pairs", x.sort(0), SPENT);
        due("count(6)", x.count(6), 2000);
        due("list(0)", x.list(0), 0);
        due("list(39)", x.list(39), 39);
        x.order(4, 0, 0);
        x.order(1, 1, 0);
        due("sort of 780 pairs, two askings each", x.sort(2), 780);
        due("count(6)", x.count(6), 1560);
        due("list(0)", x.list(0), 39);
    }

    private static void failureKeepsCounts() {
        part = "counts stay behind a failure";
        SieveDesk x = deskOf(1, 2, 3);
        x.scale(10, 1, 0);
        x.scale(11, 0, 0);
        x.scale(2, 0, 1);
        due("tell(2, 0)", x.tell(2, 0), NONE);
        due("tell(2, 0)", x.tell(2, 0), NONE);
        dueTold(x, 0, 0, 2);
        int each = x.sieve(6, 2, 0);
        int none = x.sieve(9, 0, 0);
        due("sift of EACH and NOTHING", x.sift(x.sieve(4, each, none)), NONE);
        dueList(x, 0, 1, 2);
        due("EACH was asked twice", x.sift(each), 1);
        dueList(x, 1);
    }

    private static void failuresMetAreLimited() {
        part = "2000 met";
        SieveDesk x = deskOf(new long[40]);
        int none = x.sieve(9, 0, 0);
        int safe = x.sieve(8, none, 0);
        int two = x.sieve(5, safe, safe);
        int four = x.sieve(5, two, two);
        int eight = x.sieve(5, four, four);
        int nothing = x.scale(11, 0, 0);
        int one = x.scale(1, 1, 0);
        x.order(4, 0, 0);
        for (int i = 0; i < 6; i++) {
            due("sift", x.sift(eight), 0);
            x.all();
        }
        due("count(8)", x.count(8), 1920);
        due("sift", x.sift(safe), 0);
        x.all();
        for (int i = 0; i < 39; i++) {
            due("tell", x.tell(nothing, 0), NONE);
        }
        due("count(8)", x.count(8), 1999);
        dueTold(x, one, 0, 1);
        due("scale(9)", x.scale(9, one, 0), 2);
        due("sift, which may still ask", x.sift(two), 0);
        due("count(8)", x.count(8), 1999 + 80);
        x.all();
        int askings = x.count(7);
        due("tell", x.tell(one, 0), FULL);
        due("sift", x.sift(none), FULL);
        due("sort", x.sort(0), FULL);
        due("sum", x.sum(one), FULL);
        due("group", x.group(one, one), FULL);
        due("scale of 9", x.scale(9, one, 0), FULL);
        due("tell, BAD first", x.tell(9, 0), BAD);
        due("sift, BAD first", x.sift(9), BAD);
        due("sort, BAD first", x.sort(9), BAD);
        due("sum, BAD first", x.sum(9), BAD);
        due("group, BAD first", x.group(one, 9), BAD);
        due("scale of 9, BAD first", x.scale(9, one, 40), BAD);
        due("scale that asks nothing", x.scale(1, 5, 5), 3);
        due("sieve", x.sieve(0, 0, 0), 5);
        due("count(6)", x.count(6), 40 * 5);
        due("count(7)", x.count(7), askings);
        due("count(8)", x.count(8), 2079);
        due("count(9)", x.count(9), 39);
        due("answer()", x.answer(), 1);
        exactlyTwoThousandMet();
    }

    private static void exactlyTwoThousandMet() {
        SieveDesk x = deskOf(new long[40]);
        int none = x.sieve(9, 0, 0);
        int safe = x.sieve(8, none, 0);
        int two = x.sieve(5, safe, safe);
        int four = x.sieve(5, two, two);
        int five = x.sieve(5, four, safe);
        for (int i = 0; i < 10; i++) {
            due("may ask", x.sift(five), 0);
            x.all();
        }
        due("count(8)", x.count(8), 2000);
        due("sift", x.sift(safe), FULL);
        due("count(8)", x.count(8), 2000);
    }

    /** 24 orders, and below them scales and sieves by turns: as deep as a desk can ever ask. */
    private static void deepestNesting() {
        part = "the deepest nesting";
        SieveDesk x = deskOf(2, 1);
        x.scale(0, 0, 0);
        x.scale(1, 0, 0);
        x.sieve(1, 0, 1);
        for (int i = 1; i < 23; i++) {
            x.scale(6, x.count(2) - 1, 0);
            x.sieve(1, x.count(1) - 1, 1);
        }
        x.sieve(8, x.count(2) - 1, 0);
        due("count(1)", x.count(1), 24);
        due("count(2)", x.count(2), 24);
        x.order(3, 23, 0);
        for (int i = 1; i < 24; i++) {
            x.order(1, i - 1, 0);
        }
        due("sort(23)", x.sort(23), 0);
        due("count(6)", x.count(6), 24 + 2 * (1 + 3 + 22 * 4));
        due("sift(23)", x.sift(23), 2);
    }
}
