import java.util.ArrayList;
import java.util.Arrays;
import java.util.List;
import java.util.Random;

/**
 * Drawn runs of calls, the same on the class and on a model that looks at every combination of values,
 * taking the words of the document one by one.
 */
public final class BruteForceTest {
    private static final int RUNS = 10000;
    private static final int CALLS = 120;
    private static final int MOST_COMBINATIONS = 20000;

    private static final String[] CALL_NAMES = {
        "name", "different", "counted", "limits", "same", "turned", "kinds", "dear", "cost", "domain", "keep", "run",
        "in", "blocked", "reason", "great", "ways", "end", "sure", "mark", "back", "plans", "plan", "told", "clear"};
    // How often each of them is drawn: while names are made, while rows are made, and then.
    private static final int[] NAMES = {
        40, 1, 1, 1, 1, 1, 1, 1, 1, 1, 1, 1, 1, 1, 1, 1, 1, 1, 1, 0, 1, 1, 1, 1, 0};
    private static final int[] ROWS = {
        2, 12, 12, 18, 12, 12, 12, 12, 36, 1, 1, 1, 4, 2, 2, 1, 1, 2, 2, 0, 1, 1, 2, 2, 0};
    private static final int[] THEN = {
        1, 1, 1, 2, 1, 1, 1, 1, 4, 2, 14, 6, 20, 4, 16, 6, 6, 12, 8, 5, 4, 5, 10, 8, 0};

    private static long answers = 0;

    public static void main(String[] args) {
        for (int seed = 1; seed <= RUNS; seed++) {
            if (!run(seed)) {
                System.exit(1);
            }
        }
        System.out.println(answers + " answers of " + RUNS + " drawn runs are as the model's");
    }

    private static boolean run(int seed) {
        Random random = new Random(seed);
        Drawer drawer = new Drawer(random);
        DifferentValues x = new DifferentValues();
        Model model = new Model();
        List<String> log = new ArrayList<>();
        for (int i = 0; i < CALLS; i++) {
            String call = drawer.drawCall(i, model);
            long[] a = drawer.drawArguments(call, model);
            if (model.wouldBeTooDear(call, a)) {
                continue;
            }
            String want = model.answer(call, a);
            String got = answer(x, call, a);
            answers++;
            log.add(call + Arrays.toString(a) + " -> " + got);
            if (!got.equals(want)) {
                for (String line : log) {
                    System.out.println(line);
                }
                System.out.println("run " + seed + ": the last is wrong, due is " + want);
                return false;
            }
        }
        return true;
    }

    private static String answer(DifferentValues x, String call, long[] a) {
        try {
            return String.valueOf(ask(x, call, a));
        } catch (RuntimeException e) {
            return "throws." + e.getClass().getSimpleName();
        }
    }

    private static long ask(DifferentValues x, String call, long[] a) {
        switch (call) {
            case "name": return x.name((int) a[0]);
            case "different": return x.different((int) a[0]);
            case "counted": return x.counted((int) a[0]);
            case "limits": return x.limits((int) a[0], (int) a[1], (int) a[2], (int) a[3]);
            case "same": return x.same((int) a[0], (int) a[1]);
            case "turned": return x.turned((int) a[0], (int) a[1]);
            case "kinds": return x.kinds((int) a[0], (int) a[1], (int) a[2]);
            case "dear": return x.dear((int) a[0], a[1]);
            case "cost": return x.cost((int) a[0], (int) a[1], (int) a[2], (int) a[3]);
            case "domain": return x.domain((int) a[0]);
            case "keep": return x.keep((int) a[0], (int) a[1]);
            case "run": return x.run();
            case "in": return x.in((int) a[0], (int) a[1], (int) a[2]);
            case "blocked": return x.blocked();
            case "reason": return x.reason((int) a[0], (int) a[1], (int) a[2]);
            case "great": return x.great((int) a[0]);
            case "ways": return x.ways((int) a[0]);
            case "end": return x.end((int) a[0], (int) a[1]);
            case "sure": return x.sure((int) a[0]);
            case "mark": return x.mark();
            case "back": return x.back((int) a[0]);
            case "plans": return x.plans();
            case "plan": return x.plan((int) a[0], (int) a[1]);
            case "told": return x.told((int) a[0]);
            case "clear": x.clear(); return 0;
            default: throw new AssertionError(call);
        }
    }

    /** Draws calls and arguments, most of them of use, some at the edges and some wrong. */
    private static final class Drawer {
        private static final int[] ODD = {
            -1, -2, 8, 9, 12, 13, 16, 31, 32, 33, 4095, 4096, 65536, 1001, -1001, Integer.MIN_VALUE, Integer.MAX_VALUE};
        private final Random random;
        private final int universe;
        private final int domainSize;
        private final int mostNames;
        private final int names;
        private final int rows;
        private final int costRange;

        Drawer(Random random) {
            this.random = random;
            int kind = random.nextInt(4);
            this.universe = kind == 0 ? 12 : 3 + random.nextInt(kind == 1 ? 5 : 8);
            this.domainSize = kind == 0 ? 11 : kind == 1 ? 4 : 6;
            this.mostNames = kind == 0 ? 4 : kind == 1 ? 16 : 8;
            this.names = Math.max(1 + random.nextInt(mostNames), random.nextInt(mostNames));
            // Many rows have few plans in common, so most runs have few.
            this.rows = 1 + random.nextInt(1 + random.nextInt(random.nextInt(4) == 0 ? 12 : 3));
            this.costRange = random.nextBoolean() ? 5 : 1000;
        }

        String drawCall(int i, Model m) {
            if (random.nextInt(400) == 0) {
                return "clear";
            }
            int[] weights = m.domains.size() < names ? NAMES : m.rows.size() < rows ? ROWS : THEN;
            return drawCall(i < CALLS / 2 ? weights : THEN);
        }

        private String drawCall(int[] weights) {
            int sum = 0;
            for (int w : weights) {
                sum += w;
            }
            int left = random.nextInt(sum);
            for (int i = 0; i < weights.length; i++) {
                left -= weights[i];
                if (left < 0) {
                    return CALL_NAMES[i];
                }
            }
            throw new AssertionError();
        }

        long[] drawArguments(String call, Model m) {
            int names = m.domains.size();
            switch (call) {
                case "name": return list(odd(drawDomain()));
                case "different", "counted": return list(odd(drawSet(names, 8)));
                case "limits": return limits(m);
                case "same": return pair(names, 5);
                case "turned": return pair(names, 8);
                case "kinds": return kinds(names);
                case "dear": return list(odd(drawSet(names, 8)), odd(random.nextInt(6 * costRange) - 3 * costRange));
                case "cost": return cost(m);
                case "domain": return list(odd(below(names)));
                case "keep": return list(odd(below(names)), odd(random.nextInt(3) == 0 ? drawDomain() : ~(1 << random.nextInt(universe)) & 4095));
                case "in": return inRow(m, -1);
                case "reason": return inRow(m, 0);
                case "great", "ways": return list(odd(rowOf(m, 0)));
                case "end": return list(odd(rowOf(m, random.nextBoolean() ? 4 : 5)), odd(random.nextInt(2)));
                case "sure": return list(odd(below(m.rows.size())));
                case "back": return list(odd(1 + below(m.marks.size())));
                case "plan": return list(odd(random.nextInt(random.nextBoolean() ? 4 : 40)), odd(below(names)));
                case "told": return list(odd(random.nextInt(5)));
                default: return list();
            }
        }

        private long[] list(long... a) {
            return a;
        }

        private long odd(int usual) {
            return random.nextInt(40) == 0 ? ODD[random.nextInt(ODD.length)] : usual;
        }

        private int below(int n) {
            return n == 0 ? 0 : random.nextInt(n);
        }

        private int drawDomain() {
            int bits = 0;
            int size = 1 + random.nextInt(domainSize);
            for (int i = 0; i < size; i++) {
                bits |= 1 << random.nextInt(universe);
            }
            return bits;
        }

        private int drawSet(int names, int most) {
            int size = 1 + random.nextInt(Math.min(most, mostNames) + (random.nextInt(20) == 0 ? 1 : 0));
            int set = 0;
            for (int i = 0; i < size && names > 0; i++) {
                set |= 1 << random.nextInt(names);
            }
            return random.nextInt(60) == 0 ? 0 : set;
        }

        private long[] pair(int names, int most) {
            List<Integer> order = new ArrayList<>();
            for (int n = 0; n < names; n++) {
                order.add(n);
            }
            java.util.Collections.shuffle(order, random);
            int size = 1 + random.nextInt(most + (random.nextInt(20) == 0 ? 1 : 0));
            size = Math.min(size, names / 2);
            int a = 0;
            int b = 0;
            for (int i = 0; i < size; i++) {
                a |= 1 << order.get(i);
                b |= 1 << order.get(size + i);
            }
            if (random.nextInt(20) == 0) {
                b ^= 1 << random.nextInt(17);
            }
            return list(odd(a), odd(b));
        }

        private long[] kinds(int names) {
            int set = drawSet(names, 8);
            int size = Math.max(1, Integer.bitCount(set));
            int low = random.nextInt(1 + random.nextInt(size + 1));
            int high = low + random.nextInt(4) - (random.nextInt(30) == 0 ? 1 : 0);
            return list(odd(set), odd(low), odd(high));
        }

        private int rowOf(Model m, int sort) {
            List<Integer> fitting = new ArrayList<>();
            for (int r = 0; r < m.rows.size(); r++) {
                if (sort < 0 || m.rows.get(r).sort == sort) {
                    fitting.add(r);
                }
            }
            return fitting.isEmpty() || random.nextInt(30) == 0 ? below(m.rows.size() + 1) : fitting.get(random.nextInt(fitting.size()));
        }

        private int nameOf(Model m, int row) {
            if (row >= m.rows.size() || random.nextInt(30) == 0) {
                return random.nextInt(17);
            }
            int[] names = m.rows.get(row).names;
            return names[random.nextInt(names.length)];
        }

        private int valueOf(Model m, int name) {
            if (name >= m.domains.size() || random.nextInt(10) == 0) {
                return random.nextInt(13);
            }
            int v = random.nextInt(12);
            while ((m.domains.get(name) >> v & 1) == 0) {
                v = (v + 1) % 12;
            }
            return v;
        }

        private long[] inRow(Model m, int sort) {
            int row = rowOf(m, sort);
            int name = nameOf(m, row);
            return list(odd(row), odd(name), odd(valueOf(m, name)));
        }

        private long[] limits(Model m) {
            int low = random.nextInt(5) / 3;
            int high = low + random.nextInt(4) - (random.nextInt(30) == 0 ? 1 : 0);
            return list(odd(rowOf(m, 1)), odd(random.nextInt(universe)), odd(low), odd(high));
        }

        private long[] cost(Model m) {
            int row = rowOf(m, 5);
            int name = nameOf(m, row);
            return list(odd(row), odd(name), odd(valueOf(m, name)), odd(random.nextInt(2 * costRange + 1) - costRange));
        }
    }

    private static final class ModelRow {
        int sort;
        int[] names;
        int[] a;
        int[] b;
        int[] low = new int[12];
        int[] high = new int[12];
        long most;
        int[][] costs = new int[16][12];

        private long seenAt = -1;
        private Facts seen;
    }

    /** What all combinations of values of a row's names show. */
    private static final class Facts {
        long combinations = 0;
        long plans = 0;
        int[] in = new int[16];
        int fewestKinds = 99;
        int mostKinds = 0;
        long leastSum = Long.MAX_VALUE;
        long greatestSum = Long.MIN_VALUE;
    }

    private static final class Model {
        final List<Integer> domains = new ArrayList<>();
        final List<ModelRow> rows = new ArrayList<>();
        final List<List<Integer>> marks = new ArrayList<>();
        private long stamp = 0;

        boolean wouldBeTooDear(String call, long[] a) {
            switch (call) {
                case "different", "counted", "kinds", "dear": return combinations(a[0]) > MOST_COMBINATIONS;
                case "same", "turned": return combinations(a[0] | a[1]) > MOST_COMBINATIONS;
                default: return false;
            }
        }

        private long combinations(long set) {
            long product = 1;
            for (int n = 0; n < domains.size(); n++) {
                product *= (set >> n & 1) != 0 ? Integer.bitCount(domains.get(n)) : 1;
            }
            return product;
        }

        String answer(String call, long[] a) {
            try {
                return String.valueOf(value(call, a));
            } catch (IllegalArgumentException e) {
                return "throws.IllegalArgumentException";
            } catch (IllegalStateException e) {
                return "throws.IllegalStateException";
            }
        }

        private long value(String call, long[] a) {
            stamp += "name limits cost keep run back clear".contains(call) ? 1 : 0;
            switch (call) {
                case "name": return name(a[0]);
                case "different": return oneSet(0, a[0], true, 0, 0, 0);
                case "counted": return oneSet(1, a[0], true, 0, 0, 0);
                case "limits": return limits(a[0], a[1], a[2], a[3]);
                case "same": return twoSets(2, a[0], a[1], 5);
                case "turned": return twoSets(3, a[0], a[1], 8);
                case "kinds": return oneSet(4, a[0], a[1] >= 0 && a[1] <= 12 && a[2] >= 0 && a[2] <= 12 && a[1] <= a[2], (int) a[1], (int) a[2], 0);
                case "dear": return oneSet(5, a[0], Math.abs(a[1]) <= 1000000, 0, 0, a[1]);
                case "cost": return cost(a[0], a[1], a[2], a[3]);
                case "domain": return isName(a[0]) ? domains.get((int) a[0]) : -1;
                case "keep": return keep(a[0], a[1]);
                case "run": return rest();
                case "in": return in(a[0], a[1], a[2]);
                case "blocked": return blocked();
                case "reason": return reason(a[0], a[1], a[2]);
                case "great": return great(a[0]);
                case "ways": return ways(a[0]);
                case "end": return end(a[0], a[1]);
                case "sure": return sure(a[0]);
                case "mark": return mark();
                case "back": return back(a[0]);
                case "plans": return tooMany() ? -4 : fullPlans().size();
                case "plan": return plan(a[0], a[1]);
                case "told": return told(a[0]);
                case "clear": return clear();
                default: throw new AssertionError(call);
            }
        }

        private boolean isName(long n) {
            return n >= 0 && n < domains.size();
        }

        private boolean isRow(long r) {
            return r >= 0 && r < rows.size();
        }

        private boolean isRow(long r, int sort) {
            return isRow(r) && rows.get((int) r).sort == sort;
        }

        private boolean isInRow(long n, long r) {
            return isName(n) && contains(rows.get((int) r).names, (int) n);
        }

        private static boolean contains(int[] some, int one) {
            return Arrays.stream(some).anyMatch(o -> o == one);
        }

        private boolean areNames(long set) {
            return set >= 0 && set < 1L << domains.size();
        }

        private static int[] bits(long set) {
            return java.util.stream.IntStream.range(0, 16).filter(n -> (set >> n & 1) != 0).toArray();
        }

        private long clear() {
            domains.clear();
            rows.clear();
            marks.clear();
            return 0;
        }

        private long name(long domain) {
            if (domain < 1 || domain > 4095) return -2;
            if (!marks.isEmpty()) return -3;
            if (domains.size() == 16) return -4;
            domains.add((int) domain);
            return domains.size() - 1;
        }

        private long oneSet(int sort, long set, boolean inRange, int low, int high, long most) {
            if (!areNames(set)) return -1;
            int[] names = bits(set);
            if (!inRange || names.length < 1 || names.length > 8) return -2;
            ModelRow row = new ModelRow();
            row.names = names;
            Arrays.fill(row.low, low);
            Arrays.fill(row.high, sort == 1 ? 8 : high);
            row.most = most;
            return add(row, sort);
        }

        private long twoSets(int sort, long a, long b, int most) {
            if (!areNames(a) || !areNames(b)) return -1;
            ModelRow row = new ModelRow();
            row.a = bits(a);
            row.b = bits(b);
            row.names = bits(a | b);
            if (row.a.length < 1 || row.a.length > most || row.b.length < 1 || row.b.length > most) return -2;
            if (row.a.length != row.b.length || (a & b) != 0) return -2;
            return add(row, sort);
        }

        private long add(ModelRow row, int sort) {
            if (!marks.isEmpty()) return -3;
            if (rows.size() == 12) return -4;
            row.sort = sort;
            rows.add(row);
            return rows.size() - 1;
        }

        private long limits(long r, long value, long low, long high) {
            if (!isRow(r, 1)) return -1;
            if (value < 0 || value > 11 || low < 0 || low > 8 || high < 0 || high > 8 || low > high) return -2;
            if (!marks.isEmpty()) return -3;
            ModelRow row = rows.get((int) r);
            long before = 16 * row.low[(int) value] + row.high[(int) value];
            row.low[(int) value] = (int) low;
            row.high[(int) value] = (int) high;
            return before;
        }

        private long cost(long r, long n, long value, long c) {
            if (!isRow(r, 5) || !isInRow(n, r)) return -1;
            if (value < 0 || value > 11 || c < -1000 || c > 1000) return -2;
            if (!marks.isEmpty()) return -3;
            int[] costs = rows.get((int) r).costs[(int) n];
            long before = costs[(int) value];
            costs[(int) value] = (int) c;
            return before + 1000;
        }

        private long keep(long n, long values) {
            if (!isName(n)) return -1;
            if (values < 0 || values > 4095) return -2;
            int before = domains.get((int) n);
            if ((before & values) == 0) return -3;
            domains.set((int) n, (int) (before & values));
            return Integer.bitCount(before) - Integer.bitCount((int) (before & values));
        }

        /** One value at a time, as the words say, from the last row to the first. */
        private long rest() {
            List<Integer> before = new ArrayList<>(domains);
            long gone = 0;
            int r = rows.size() - 1;
            while (r >= 0) {
                Facts facts = facts(rows.get(r));
                int name = -1;
                int left = 0;
                for (int n : rows.get(r).names) {
                    if ((domains.get(n) & ~facts.in[n]) != 0) {
                        name = n;
                        left = domains.get(n) & ~Integer.highestOneBit(domains.get(n) & ~facts.in[n]);
                    }
                }
                if (name < 0) {
                    r--;
                    continue;
                }
                if (left == 0) {
                    domains.clear();
                    domains.addAll(before);
                    stamp++;
                    return -3;
                }
                domains.set(name, left);
                stamp++;
                gone++;
                r = rows.size() - 1;
            }
            return gone;
        }

        private long in(long r, long n, long value) {
            if (!isRow(r) || !isInRow(n, r)) return -1;
            if (value < 0 || value > 11) return -2;
            return facts(rows.get((int) r)).in[(int) n] >> value & 1;
        }

        private long blocked() {
            for (int r = 0; r < rows.size(); r++) {
                if (facts(rows.get(r)).plans == 0) return r;
            }
            return -1;
        }

        private long reason(long r, long n, long value) {
            if (!isRow(r, 0) || !isInRow(n, r)) return -1;
            if (value < 0 || value > 11 || (domains.get((int) n) >> value & 1) == 0) return -2;
            Facts facts = facts(rows.get((int) r));
            if (facts.plans == 0) return -3;
            if ((facts.in[(int) n] >> value & 1) != 0) return 0;
            return leastTight(rows.get((int) r).names, (int) n, (int) value);
        }

        private long leastTight(int[] names, int without, int value) {
            int best = -1;
            int fewest = 99;
            int asFew = 0;
            for (int choice = 1; choice < 1 << names.length; choice++) {
                int set = 0;
                int union = 0;
                for (int i = 0; i < names.length; i++) {
                    if ((choice >> i & 1) != 0) {
                        set |= 1 << names[i];
                        union |= domains.get(names[i]);
                    }
                }
                int size = Integer.bitCount(choice);
                boolean tight = Integer.bitCount(union) == size;
                if (!tight || (set >> without & 1) != 0 || (union >> value & 1) == 0 || size > fewest) {
                    continue;
                }
                asFew = size == fewest ? asFew + 1 : 1;
                fewest = size;
                best = set;
            }
            if (asFew != 1) {
                throw new AssertionError("as few: " + asFew);
            }
            return best;
        }

        private long great(long r) {
            if (!isRow(r, 0)) return -1;
            int[] names = rows.get((int) r).names;
            int all = mostDiffering(names, 0, -1, 0);
            long set = 0;
            for (int n : names) {
                set |= mostDiffering(names, 0, n, 0) == all ? 1 << n : 0;
            }
            return set;
        }

        private int mostDiffering(int[] names, int i, int without, int used) {
            if (i == names.length) return 0;
            int best = mostDiffering(names, i + 1, without, used);
            for (int v = 0; v < 12 && names[i] != without; v++) {
                if ((domains.get(names[i]) & ~used & 1 << v) != 0) {
                    best = Math.max(best, 1 + mostDiffering(names, i + 1, without, used | 1 << v));
                }
            }
            return best;
        }

        private long ways(long r) {
            if (!isRow(r, 0)) throw new IllegalArgumentException();
            return facts(rows.get((int) r)).plans;
        }

        private long end(long r, long what) {
            if (!isRow(r, 4) && !isRow(r, 5) || what != 0 && what != 1) throw new IllegalArgumentException();
            Facts facts = facts(rows.get((int) r));
            if (isRow(r, 4)) return what == 0 ? facts.fewestKinds : facts.mostKinds;
            if (facts.leastSum > facts.greatestSum) throw new IllegalStateException();
            return what == 0 ? facts.leastSum : facts.greatestSum;
        }

        private long sure(long r) {
            if (!isRow(r)) return -1;
            Facts facts = facts(rows.get((int) r));
            return facts.plans == facts.combinations ? 1 : 0;
        }

        private long mark() {
            if (marks.size() == 20) return -4;
            marks.add(new ArrayList<>(domains));
            return marks.size();
        }

        private long back(long m) {
            if (m < 1 || m > marks.size()) return -1;
            long before = told(3);
            List<Integer> then = marks.get((int) m - 1);
            while (marks.size() >= m) {
                marks.remove(marks.size() - 1);
            }
            domains.clear();
            domains.addAll(then);
            return told(3) - before;
        }

        private boolean tooMany() {
            double product = 1;
            for (int d : domains) {
                product *= Integer.bitCount(d);
            }
            return product > 20000;
        }

        private long plan(long k, long n) {
            if (!isName(n)) return -1;
            if (tooMany()) return -4;
            List<int[]> all = fullPlans();
            return k < 0 || k >= all.size() ? -2 : all.get((int) k)[(int) n];
        }

        private List<int[]> fullPlans() {
            List<int[]> all = new ArrayList<>();
            int[] names = java.util.stream.IntStream.range(0, domains.size()).toArray();
            int[] values = first(names);
            do {
                boolean plan = true;
                for (ModelRow row : rows) {
                    plan = plan && isPlan(row, values);
                }
                if (plan) all.add(values.clone());
            } while (next(names, values));
            return all;
        }

        private long told(long what) {
            if (what == 0) return domains.size();
            if (what == 1) return rows.size();
            if (what == 2) return marks.size();
            if (what != 3 && what != 4) return -2;
            long sum = 0;
            for (int n = 0; what == 3 && n < domains.size(); n++) {
                sum += Integer.bitCount(domains.get(n));
            }
            for (int r = 0; what == 4 && r < rows.size(); r++) {
                Facts facts = facts(rows.get(r));
                for (int n : rows.get(r).names) {
                    sum += Integer.bitCount(domains.get(n) & ~facts.in[n]);
                }
            }
            return sum;
        }

        private Facts facts(ModelRow row) {
            if (row.seenAt != stamp) {
                row.seen = findFacts(row);
                row.seenAt = stamp;
            }
            return row.seen;
        }

        private Facts findFacts(ModelRow row) {
            Facts facts = new Facts();
            int[] values = first(row.names);
            do {
                facts.combinations++;
                int kinds = kinds(row.names, values);
                facts.fewestKinds = Math.min(facts.fewestKinds, kinds);
                facts.mostKinds = Math.max(facts.mostKinds, kinds);
                if (kinds == row.names.length) {
                    facts.leastSum = Math.min(facts.leastSum, sum(row, values));
                    facts.greatestSum = Math.max(facts.greatestSum, sum(row, values));
                }
                if (isPlan(row, values)) {
                    facts.plans++;
                    for (int n : row.names) {
                        facts.in[n] |= 1 << values[n];
                    }
                }
            } while (next(row.names, values));
            return facts;
        }

        private int[] first(int[] names) {
            int[] values = new int[16];
            for (int n : names) {
                values[n] = Integer.numberOfTrailingZeros(domains.get(n));
            }
            return values;
        }

        private boolean next(int[] names, int[] values) {
            for (int i = names.length - 1; i >= 0; i--) {
                int n = names[i];
                int above = domains.get(n) >> values[n] + 1 << values[n] + 1;
                if (above != 0) {
                    values[n] = Integer.numberOfTrailingZeros(above);
                    return true;
                }
                values[n] = Integer.numberOfTrailingZeros(domains.get(n));
            }
            return false;
        }

        private static int kinds(int[] names, int[] values) {
            int used = 0;
            for (int n : names) {
                used |= 1 << values[n];
            }
            return Integer.bitCount(used);
        }

        private static long sum(ModelRow row, int[] values) {
            long sum = 0;
            for (int n : row.names) {
                sum += row.costs[n][values[n]];
            }
            return sum;
        }

        private static int howOften(int v, int[] names, int[] values) {
            int count = 0;
            for (int n : names) {
                count += values[n] == v ? 1 : 0;
            }
            return count;
        }

        private static boolean isPlan(ModelRow row, int[] values) {
            int kinds = kinds(row.names, values);
            switch (row.sort) {
                case 0: return kinds == row.names.length;
                case 1: return isCounted(row, values);
                case 2: return isSame(row, values);
                case 3: return isTurned(row, values);
                case 4: return kinds >= row.low[0] && kinds <= row.high[0];
                default: return kinds == row.names.length && sum(row, values) <= row.most;
            }
        }

        private static boolean isCounted(ModelRow row, int[] values) {
            for (int v = 0; v < 12; v++) {
                int count = howOften(v, row.names, values);
                if (count < row.low[v] || count > row.high[v]) return false;
            }
            return true;
        }

        private static boolean isSame(ModelRow row, int[] values) {
            for (int v = 0; v < 12; v++) {
                if (howOften(v, row.a, values) != howOften(v, row.b, values)) return false;
            }
            return true;
        }

        private static boolean isTurned(ModelRow row, int[] values) {
            int n = row.a.length;
            for (int name : row.names) {
                if (values[name] >= n) return false;
            }
            for (int i = 0; i < n; i++) {
                for (int j = 0; j < n; j++) {
                    if ((values[row.a[i]] == j) != (values[row.b[j]] == i)) return false;
                }
            }
            return true;
        }
    }
}
