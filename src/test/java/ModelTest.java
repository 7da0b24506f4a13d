import java.util.ArrayList;
import java.util.LinkedHashMap;
import java.util.List;
import java.util.Map;
import java.util.Random;

/**
 * Runs of calls, always the same ones, on a desk and on a second telling of the document: there a
 * scale, a sieve or an order is a function, and a failure is an exception.
 */
public final class ModelTest {
    private static final int RUNS = 3000;
    private static final int CALLS = 512;

    public static void main(String[] args) {
        int wrong = 0;
        long[] seen = new long[15];
        for (int run = 0; run < RUNS && wrong < 10; run++) {
            wrong += differs(run, seen) ? 1 : 0;
        }
        System.out.println("answers of calls that ask: done " + seen[0] + ", ZERO " + seen[11]
                + ", INDEX " + seen[12] + ", NONE " + seen[13] + ", SPENT " + seen[14]
                + ", FULL " + seen[2] + ", BAD " + seen[1]);
        for (int kind : new int[] {0, 1, 2, 11, 12, 13, 14}) {
            if (seen[kind] == 0) {
                wrong++;
                System.out.println("no call answered so: the runs do not try enough");
            }
        }
        System.out.println(wrong == 0 ? "all answers are as due" : wrong + " runs are not as due");
        if (wrong != 0) {
            System.exit(1);
        }
    }

    private static boolean differs(int run, long[] seen) {
        Random random = new Random(run);
        Caller caller = new Caller(random, run % 4);
        SieveDesk desk = new SieveDesk();
        Model model = new Model();
        List<String> calls = new ArrayList<>();
        for (int i = 0; i < CALLS; i++) {
            Call c = caller.next(i, model);
            calls.add(c.toString());
            long got = onDesk(desk, c);
            long want = model.answerOf(c);
            if (got != want) {
                System.out.println("run " + run + ", call " + i + ": " + c + " answered " + got
                        + ", due is " + want + "; before it: " + calls);
                return true;
            }
            if (c.asks()) {
                seen[got >= 0 ? 0 : (int) -got]++;
            }
        }
        return false;
    }

    private static long onDesk(SieveDesk d, Call c) {
        int a = (int) c.a;
        int b = (int) c.b;
        int k = (int) c.c;
        switch (c.name) {
            case "thing": return d.thing(c.a, c.b, c.c);
            case "change": return d.change(a, b, c.c);
            case "get": return d.get(a, b);
            case "item": return d.item(a, c.b);
            case "scale": return d.scale(a, b, k);
            case "sieve": return d.sieve(a, b, k);
            case "order": return d.order(a, b, k);
            case "all": return d.all();
            case "tell": return d.tell(a, b);
            case "sift": return d.sift(a);
            case "sort": return d.sort(a);
            case "sum": return d.sum(a);
            case "group": return d.group(a, b);
            case "answer": return d.answer();
            case "list": return d.list(a);
            case "groups": return d.groups(a, b);
            default: return d.count(a);
        }
    }

    private record Call(String name, long a, long b, long c) {
        boolean asks() {
            return name.equals("tell") || name.equals("sift") || name.equals("sort")
                    || name.equals("sum") || name.equals("group");
        }

        @Override
        public String toString() {
            return name + "(" + a + ", " + b + ", " + c + ")";
        }
    }

    /** Chooses calls; by its way, it makes more parts, fewer failing ones, or more safe ones. */
    private static final class Caller {
        private static final String[] MAKING = {"thing", "thing", "scale", "scale", "scale", "sieve",
            "sieve", "order", "item"};
        private static final String[] USING = {"thing", "change", "item", "scale", "sieve", "order",
            "all", "all", "all", "tell", "sift", "sort", "sort", "sum", "group", "group", "tell"};
        private static final String[] SEEING = {"get", "answer", "list", "list", "list", "groups",
            "groups", "count", "count", "count", "count"};
        /** Sieves that meet many failures, so that some runs come to the limit of those met. */
        private static final int[][] MEETING = {{9, 0, 0}, {8, 0, 0}, {5, 1, 1}, {5, 2, 2}, {5, 3, 3}};
        private final Random random;
        private final int way;

        Caller(Random random, int way) {
            this.random = random;
            this.way = way;
        }

        Call next(int i, Model m) {
            if (way == 2 && i < MEETING.length) {
                return new Call("sieve", MEETING[i][0], MEETING[i][1], MEETING[i][2]);
            }
            String[] names = i < 60 ? MAKING : random.nextInt(100) < 55 ? SEEING : USING;
            String name = names[random.nextInt(names.length)];
            switch (name) {
                case "thing": return new Call(name, value(), value(), value());
                case "change": return new Call(name, below(m.things.size()), below(3), value());
                case "get": return new Call(name, below(m.things.size()), below(3), 0);
                case "item": return new Call(name, below(8), value(), 0);
                case "scale": return aScale(m);
                case "sieve": return aSieve(m);
                case "order": return anOrder(m);
                case "tell": return new Call(name, late(m.scales.size()), below(m.things.size()), 0);
                case "sift": return new Call(name, late(m.sieves.size()), 0, 0);
                case "sort": return new Call(name, late(m.orders.size()), 0, 0);
                case "sum": return new Call(name, late(m.scales.size()), 0, 0);
                case "group": return new Call(name, below(m.scales.size()), late(m.scales.size()), 0);
                case "list": return new Call(name, below(m.list.size()), 0, 0);
                case "groups": return new Call(name, below(m.groups.size()), below(4), 0);
                case "count": return new Call(name, below(11), 0, 0);
                default: return new Call(name, 0, 0, 0);
            }
        }

        private Call aScale(Model m) {
            int kind = random.nextInt(12);
            if (way != 0 && (kind == 11 || kind == 7) && random.nextInt(3) > 0) {
                kind = random.nextInt(4);
            }
            if (random.nextInt(60) == 0) {
                kind = below(12);
            }
            int scales = m.scales.size();
            int a = kind == 0 ? below(3) : kind == 8 ? below(8) : kind == 6 ? late(m.sieves.size())
                    : kind == 1 || kind == 10 ? (int) value() : late(scales);
            int b = kind >= 2 && kind <= 6 ? late(scales) : kind == 9 ? below(m.things.size())
                    : (int) value();
            return new Call("scale", kind, a, b);
        }

        private Call aSieve(Model m) {
            int kind = random.nextInt(10);
            if (way == 2 && random.nextInt(3) == 0) {
                kind = 8;
            }
            if (way != 0 && kind == 9 && random.nextInt(3) > 0) {
                kind = 5;
            }
            if (random.nextInt(60) == 0) {
                kind = below(10);
            }
            boolean ofScales = kind == 1 || kind == 2;
            int many = ofScales ? m.scales.size() : m.sieves.size();
            int a = kind == 6 ? random.nextInt(6) - 1 : kind == 7 ? random.nextInt(45) - 2 : late(many);
            return new Call("sieve", kind, a, late(many));
        }

        private Call anOrder(Model m) {
            int kind = random.nextInt(way == 0 ? 6 : 5);
            if (random.nextInt(60) == 0) {
                kind = below(6);
            }
            int many = kind == 0 ? m.scales.size() : kind == 3 ? m.sieves.size() : m.orders.size();
            return new Call("order", kind, late(many), late(m.orders.size()));
        }

        /** Mostly below the bound, now and then beside it. */
        private int below(int bound) {
            int odd = random.nextInt(40);
            if (odd == 0 || bound == 0) {
                int[] beside = {-1, bound, bound + 1, Integer.MAX_VALUE, Integer.MIN_VALUE};
                return beside[random.nextInt(beside.length)];
            }
            return random.nextInt(bound);
        }

        /** As below(), but rather the ones that were made last, which have the most parts. */
        private int late(int bound) {
            if (bound > 1 && way != 3 && random.nextInt(2) == 0) {
                return bound - 1 - random.nextInt(Math.min(bound, 4));
            }
            return below(bound);
        }

        private long value() {
            switch (random.nextInt(12)) {
                case 0: return random.nextLong();
                case 1: return random.nextBoolean() ? Long.MAX_VALUE : Long.MIN_VALUE;
                case 2: return random.nextInt();
                case 3: return -1 - random.nextInt(3);
                case 4: return (1L << 32) + random.nextInt(8);
                default: return random.nextInt(8);
            }
        }
    }

    private interface Scale {
        long of(int thing);
    }

    private interface Sieve {
        boolean holds(int thing);
    }

    private interface Order {
        int of(int x, int y);
    }

    private interface Act {
        long run();
    }

    private static final class Failure extends RuntimeException {
        private static final long serialVersionUID = 1;
        final int number;

        Failure(int number) {
            super(null, null, false, false);
            this.number = number;
        }
    }

    private static final class Group {
        final long key;
        final List<Integer> members = new ArrayList<>();
        long sum;

        Group(long key) {
            this.key = key;
        }
    }

    private static final class Model {
        final List<long[]> things = new ArrayList<>();
        final long[] row = new long[8];
        List<Integer> list = new ArrayList<>();
        final List<Scale> scales = new ArrayList<>();
        final List<Sieve> sieves = new ArrayList<>();
        final List<Order> orders = new ArrayList<>();
        List<Group> groups = new ArrayList<>();
        long told;
        int askings;
        int askingsEver;
        int met;
        int failedCalls;
        int latestFailure;

        long answerOf(Call k) {
            int a = (int) k.a;
            int b = (int) k.b;
            switch (k.name) {
                case "thing": return newThing(k.a, k.b, k.c);
                case "change": {
                    if (!in(a, things) || b < 0 || b > 2) {
                        return -1;
                    }
                    things.get(a)[b] = k.c;
                    return 1;
                }
                case "get": return !in(a, things) || b < 0 || b > 2 ? 0 : things.get(a)[b];
                case "item": {
                    if (a < 0 || a > 7) {
                        return -1;
                    }
                    row[a] = k.b;
                    return 1;
                }
                case "scale": return newScale(a, b, (int) k.c);
                case "sieve": return keep(sieves, newSieve(a, b, (int) k.c));
                case "order": return keep(orders, newOrder(a, b, (int) k.c));
                case "all": {
                    list = new ArrayList<>();
                    for (int i = 0; i < things.size(); i++) {
                        list.add(i);
                    }
                    return list.size();
                }
                case "tell": return !in(a, scales) || !in(b, things) ? -1 : act(() -> {
                    told = scales.get(a).of(b);
                    return 1;
                });
                case "sift": return !in(a, sieves) ? -1 : act(() -> sifted(sieves.get(a)));
                case "sort": return !in(a, orders) ? -1 : act(() -> sorted(orders.get(a)));
                case "sum": return !in(a, scales) ? -1 : act(() -> summed(scales.get(a)));
                case "group": return !in(a, scales) || !in(b, scales) ? -1
                        : act(() -> grouped(scales.get(a), scales.get(b)));
                case "answer": return told;
                case "list": return in(a, list) ? list.get(a) : -1;
                case "groups": return in(a, groups) ? ofGroup(groups.get(a), b) : 0;
                default: return counted(a);
            }
        }

        private static boolean in(int number, List<?> of) {
            return number >= 0 && number < of.size();
        }

        private long newThing(long a, long b, long c) {
            if (things.size() == 40) {
                return -2;
            }
            things.add(new long[] {a, b, c});
            list.add(things.size() - 1);
            return things.size() - 1;
        }

        private long act(Act act) {
            if (met >= 2000) {
                return -2;
            }
            askings = 0;
            try {
                return act.run();
            } catch (Failure f) {
                met++;
                failedCalls++;
                latestFailure = f.number;
                return -10 - f.number;
            }
        }

        private void begin() {
            if (askings == 2000) {
                throw new Failure(4);
            }
            askings++;
            askingsEver++;
        }

        private long sifted(Sieve sieve) {
            List<Integer> kept = new ArrayList<>();
            for (int thing : list) {
                if (sieve.holds(thing)) {
                    kept.add(thing);
                }
            }
            list = kept;
            return list.size();
        }

        private long sorted(Order order) {
            List<Integer> work = new ArrayList<>(list);
            int went = 0;
            for (int i = 1; i < work.size(); i++) {
                for (int j = i; j > 0 && order.of(work.get(j - 1), work.get(j)) == 1; j--) {
                    work.add(j - 1, work.remove(j));
                    went++;
                }
            }
            list = work;
            return went;
        }

        private long summed(Scale scale) {
            long sum = 0;
            for (int thing : list) {
                sum += scale.of(thing);
            }
            told = sum;
            return 1;
        }

        private long grouped(Scale key, Scale of) {
            Map<Long, Group> made = new LinkedHashMap<>();
            for (int thing : list) {
                Group group = made.computeIfAbsent(key.of(thing), Group::new);
                group.sum += of.of(thing);
                group.members.add(thing);
            }
            groups = new ArrayList<>(made.values());
            return groups.size();
        }

        private static long ofGroup(Group group, int what) {
            return what == 0 ? group.key : what == 1 ? group.members.size() : what == 2 ? group.sum
                    : what == 3 ? group.members.get(0) : 0;
        }

        private int counted(int what) {
            int[] counts = {things.size(), scales.size(), sieves.size(), orders.size(), list.size(),
                groups.size(), askings, askingsEver, met, failedCalls, latestFailure};
            return what >= 0 && what < counts.length ? counts[what] : -1;
        }

        private static <T> long keep(List<T> in, T made) {
            if (made == null) {
                return -1;
            }
            if (in.size() == 24) {
                return -2;
            }
            in.add(made);
            return in.size() - 1;
        }

        private long newScale(int kind, int a, int b) {
            if (kind != 9) {
                return keep(scales, scaleOf(kind, a, b));
            }
            if (!in(a, scales) || !in(b, things)) {
                return -1;
            }
            if (scales.size() == 24) {
                return -2;
            }
            return act(() -> {
                long was = scales.get(a).of(b);
                return keep(scales, scaleBegun(t -> was));
            });
        }

        private Scale scaleBegun(Scale scale) {
            return t -> {
                begin();
                return scale.of(t);
            };
        }

        private Scale scaleOf(int kind, int a, int b) {
            Scale of = in(a, scales) ? scales.get(a) : null;
            Scale by = in(b, scales) ? scales.get(b) : null;
            boolean two = of != null && by != null;
            switch (kind) {
                case 0: return a < 0 || a > 2 ? null : scaleBegun(t -> things.get(t)[a]);
                case 1: return scaleBegun(t -> 0L + a + b);
                case 2: return !two ? null : scaleBegun(t -> of.of(t) + by.of(t));
                case 3: return !two ? null : scaleBegun(t -> of.of(t) * by.of(t));
                case 4: return !two ? null : scaleBegun(t -> {
                    long up = of.of(t);
                    long down = by.of(t);
                    if (down == 0) {
                        throw new Failure(1);
                    }
                    return up / down;
                });
                case 5: return !two ? null : scaleBegun(t -> Math.min(of.of(t), by.of(t)));
                case 6: {
                    if (!in(a, sieves) || by == null) {
                        return null;
                    }
                    Sieve where = sieves.get(a);
                    return scaleBegun(t -> where.holds(t) ? by.of(t) : 0);
                }
                case 7: return of == null ? null : scaleBegun(t -> {
                    long place = of.of(t);
                    if (place < 0 || place > 7) {
                        throw new Failure(2);
                    }
                    return row[(int) place];
                });
                case 8: {
                    if (a < 0 || a > 7) {
                        return null;
                    }
                    long was = row[a];
                    return scaleBegun(t -> was);
                }
                case 10: {
                    long[] asked = {0};
                    return scaleBegun(t -> asked[0]++ * a + b);
                }
                case 11: return scaleBegun(t -> {
                    throw new Failure(3);
                });
                default: return null;
            }
        }

        private Sieve sieveBegun(Sieve sieve) {
            return t -> {
                begin();
                return sieve.holds(t);
            };
        }

        private Sieve newSieve(int kind, int a, int b) {
            boolean ofScales = in(a, scales) && in(b, scales);
            Scale x = ofScales ? scales.get(a) : null;
            Scale y = ofScales ? scales.get(b) : null;
            Sieve of = in(a, sieves) ? sieves.get(a) : null;
            Sieve by = in(b, sieves) ? sieves.get(b) : null;
            boolean two = of != null && by != null;
            switch (kind) {
                case 0: return sieveBegun(t -> true);
                case 1: return !ofScales ? null : sieveBegun(t -> x.of(t) > y.of(t));
                case 2: return !ofScales ? null : sieveBegun(t -> x.of(t) == y.of(t));
                case 3: return of == null ? null : sieveBegun(t -> !of.holds(t));
                case 4: return !two ? null : sieveBegun(t -> of.holds(t) && by.holds(t));
                case 5: return !two ? null : sieveBegun(t -> of.holds(t) || by.holds(t));
                case 6: {
                    int[] left = {a < 1 ? 1 : a};
                    return sieveBegun(t -> {
                        left[0]--;
                        if (left[0] > 0) {
                            return false;
                        }
                        left[0] = a < 1 ? 1 : a;
                        return true;
                    });
                }
                case 7: return sieveBegun(t -> t < a);
                case 8: return of == null ? null : sieveBegun(t -> safely(of, t));
                case 9: return sieveBegun(t -> {
                    throw new Failure(3);
                });
                default: return null;
            }
        }

        private boolean safely(Sieve of, int thing) {
            try {
                return of.holds(thing);
            } catch (Failure f) {
                if (f.number == 4) {
                    throw f;
                }
                met++;
                return false;
            }
        }

        private Order orderBegun(Order order) {
            return (x, y) -> {
                begin();
                return order.of(x, y);
            };
        }

        private Order newOrder(int kind, int a, int b) {
            Order of = in(a, orders) ? orders.get(a) : null;
            Order by = in(b, orders) ? orders.get(b) : null;
            switch (kind) {
                case 0: {
                    if (!in(a, scales)) {
                        return null;
                    }
                    Scale scale = scales.get(a);
                    return orderBegun((x, y) -> Long.compare(scale.of(x), scale.of(y)));
                }
                case 1: return of == null ? null : orderBegun((x, y) -> -of.of(x, y));
                case 2: return of == null || by == null ? null : orderBegun((x, y) -> {
                    int told = of.of(x, y);
                    return told == 0 ? by.of(x, y) : told;
                });
                case 3: {
                    if (!in(a, sieves)) {
                        return null;
                    }
                    Sieve sieve = sieves.get(a);
                    return orderBegun((x, y) -> Boolean.compare(!sieve.holds(x), !sieve.holds(y)));
                }
                case 4: return orderBegun((x, y) -> Integer.compare(x, y));
                case 5: return orderBegun((x, y) -> {
                    throw new Failure(3);
                });
                default: return null;
            }
        }
    }
}
