import java.util.ArrayList;
import java.util.Arrays;
import java.util.Collections;
import java.util.HashMap;
import java.util.List;
import java.util.Map;
import java.util.Random;
import java.util.TreeMap;

/**
 * Runs of 512 calls on one object: rows of all six sorts over names that they share, with keep, run, mark and back
 * between all other calls. What is due is told by a model that goes through the names of a row one by one and holds
 * on to what matters of the values so far.
 */
public final class LongRunsTest {
    private static final int RUNS = 240;
    private static final int CALLS = 512;
    private static final int[] ODD = {
        -1, -2, 8, 9, 12, 13, 16, 17, 20, 21, 32, 64, 4095, 4096, 65535, 65536, 1000, 1001, -1001, Integer.MIN_VALUE, Integer.MAX_VALUE};

    private static final Map<String, Integer> events = new TreeMap<>();
    private static int wrong = 0;
    private static int asked = 0;

    public static void main(String[] args) {
        for (int seed = 1; seed <= RUNS && wrong == 0; seed++) {
            new Run(seed).go();
        }
        seekEvents();
        System.out.println(wrong == 0 ? asked + " answers of " + RUNS + " long runs are as due" : wrong + " answers are not as due");
        if (wrong != 0) {
            System.exit(1);
        }
    }

    /** Runs in which nothing happens would show nothing. */
    private static void seekEvents() {
        String[] due = {
            "run took values away", "run took nothing away", "run was blocked", "back brought values", "back brought nothing",
            "a mark too many", "a reason", "no reason", "sure", "not sure", "full plans", "no full plans", "too many for plans",
            "a value of a full plan", "a dear row has no ends", "a row without a plan", "names without which as many",
            "refused while there are marks", "costs changed", "limits changed", "all six sorts share a name"};
        for (String event : due) {
            if (wrong == 0 && events.getOrDefault(event, 0) < 20) {
                wrong++;
                System.out.println("too seldom: " + event + ": " + events.getOrDefault(event, 0));
            }
        }
    }

    private static void happened(boolean so, String event) {
        if (so) {
            events.merge(event, 1, Integer::sum);
        }
    }

    /** One object and its model, side by side. */
    private static final class Run {
        private final int seed;
        private final Random random;
        private final DifferentValues x = new DifferentValues();
        private final Model model = new Model();
        private final List<String> log = new ArrayList<>();
        private int calls = 0;
        private Scene scene;
        private boolean isBlocked;

        Run(int seed) {
            this.seed = seed;
            this.random = new Random(seed);
        }

        void go() {
            while (calls < CALLS && wrong == 0) {
                if (model.domains.isEmpty()) {
                    scene = new Scene(this, random);
                    scene.build();
                } else if (isSpent() && random.nextInt(4) == 0) {
                    widen();
                } else if (model.marks.isEmpty() && random.nextInt(4) == 0) {
                    // What is lost without a mark never comes back.
                    call("mark");
                } else {
                    drawCall();
                }
            }
        }

        /** Whether the rows leave nothing, or there is little left to take away. */
        private boolean isSpent() {
            return isBlocked || model.howManyValues() <= model.domains.size() + 3;
        }

        private void widen() {
            int marks = model.marks.size();
            isBlocked = false;
            if (marks > 0) {
                call("back", 1 + random.nextInt(marks));
            } else if (random.nextInt(8) == 0) {
                call("clear");
            }
        }

        long call(String name, long... a) {
            if (calls >= CALLS || wrong != 0) {
                return 0;
            }
            calls++;
            asked++;
            String want = model.answer(name, a);
            String got = answer(x, name, a);
            log.add(name + Arrays.toString(a) + " -> " + got);
            note(name, want);
            isBlocked = name.equals("run") ? want.equals("-3") : isBlocked;
            if (!got.equals(want)) {
                wrong++;
                log.forEach(System.out::println);
                System.out.println("run " + seed + ": the last is wrong, due is " + want);
            }
            return got.startsWith("throws") ? 0 : Long.parseLong(got);
        }

        private void note(String name, String want) {
            boolean none = want.startsWith("throws");
            long value = none ? 0 : Long.parseLong(want);
            happened(name.equals("run") && value > 0, "run took values away");
            happened(name.equals("run") && value == 0, "run took nothing away");
            happened(name.equals("run") && value == -3, "run was blocked");
            happened(name.equals("back") && value > 0, "back brought values");
            happened(name.equals("back") && value == 0, "back brought nothing");
            happened(name.equals("mark") && value == -4, "a mark too many");
            happened(name.equals("reason") && value > 0, "a reason");
            happened(name.equals("reason") && value == 0, "no reason");
            happened(name.equals("sure") && value == 1, "sure");
            happened(name.equals("sure") && value == 0, "not sure");
            happened(name.equals("plans") && value > 0, "full plans");
            happened(name.equals("plans") && value == 0, "no full plans");
            happened(name.equals("plans") && value == -4, "too many for plans");
            happened(name.equals("plan") && value >= 0, "a value of a full plan");
            happened(want.equals("throws.IllegalStateException"), "a dear row has no ends");
            happened(name.equals("blocked") && value >= 0, "a row without a plan");
            happened(name.equals("great") && value > 0, "names without which as many");
            happened("name different counted limits same turned kinds dear cost".contains(name) && value == -3, "refused while there are marks");
            happened(name.equals("cost") && value > 0 && value != 1000, "costs changed");
            happened(name.equals("limits") && value > 0 && value != 8, "limits changed");
            happened(name.equals("run") && model.allSortsShareAName(), "all six sorts share a name");
        }

        private static final String[] NAMES = {
            "keep", "run", "mark", "back", "in", "blocked", "reason", "great", "ways", "end", "sure", "plans", "plan", "told",
            "domain", "limits", "cost", "name", "different", "counted", "same", "turned", "kinds", "dear", "clear"};
        private static final int[] OFTEN = {
            36, 14, 9, 5, 24, 6, 20, 6, 6, 14, 16, 8, 16, 12,
            8, 6, 8, 1, 1, 1, 1, 1, 1, 1, 1};

        private void drawCall() {
            int left = random.nextInt(Arrays.stream(OFTEN).sum());
            int i = 0;
            while (left >= OFTEN[i]) {
                left -= OFTEN[i];
                i++;
            }
            // To fill all the room for marks takes more of them than the draws bring.
            int times = NAMES[i].equals("mark") && random.nextInt(40) == 0 ? 21 : 1;
            for (int t = 0; t < times; t++) {
                call(NAMES[i], drawArguments(NAMES[i]));
            }
        }

        private long[] drawArguments(String name) {
            int names = model.domains.size();
            int rows = model.rows.size();
            switch (name) {
                case "keep": return drawKeep();
                case "back": return list(odd(1 + below(model.marks.size())));
                case "in": return drawPlace(below(rows));
                case "reason": return drawPlace(rowOf("different"));
                case "great", "ways": return list(odd(rowOf("different")));
                case "end": return list(odd(rowOf(random.nextBoolean() ? "kinds" : "dear")), odd(random.nextInt(2)));
                case "sure": return list(odd(below(rows)));
                case "plan": return list(odd(drawPlanNumber()), odd(below(names)));
                case "told": return list(odd(random.nextInt(5)));
                case "domain": return list(odd(below(names)));
                case "limits": return list(odd(rowOf("counted")), odd(random.nextInt(12)), odd(random.nextInt(5) / 4), odd(1 + random.nextInt(3)));
                case "cost": return drawCost();
                case "name": return list(odd(1 << random.nextInt(12)));
                case "different", "counted": return list(odd(drawSet()));
                case "same", "turned": return list(odd(1 << below(names)), odd(1 << below(names)));
                case "kinds": return list(odd(drawSet()), odd(random.nextInt(3)), odd(2 + random.nextInt(6)));
                case "dear": return list(odd(drawSet()), odd(random.nextInt(2000) - 500));
                default: return list();
            }
        }

        private static long[] list(long... a) {
            return a;
        }

        private int below(int n) {
            return n == 0 ? 0 : random.nextInt(n);
        }

        private long odd(int usual) {
            return random.nextInt(50) == 0 ? ODD[random.nextInt(ODD.length)] : usual;
        }

        private int drawSet() {
            int set = 0;
            for (int i = 0; i < 3; i++) {
                set |= 1 << random.nextInt(model.domains.size());
            }
            return set;
        }

        private int rowOf(String sort) {
            List<Integer> fitting = new ArrayList<>();
            for (int r = 0; r < model.rows.size(); r++) {
                if (model.rows.get(r).sort.equals(sort)) {
                    fitting.add(r);
                }
            }
            return fitting.isEmpty() || random.nextInt(30) == 0 ? below(model.rows.size() + 1) : fitting.get(random.nextInt(fitting.size()));
        }

        private int valueOf(int name) {
            int domain = name < model.domains.size() && random.nextInt(8) != 0 ? model.domains.get(name) : 4095;
            int v = random.nextInt(12);
            while ((domain >> v & 1) == 0) {
                v = (v + 1) % 12;
            }
            return v;
        }

        private int nameOf(int row) {
            if (row >= model.rows.size() || random.nextInt(30) == 0) {
                return below(model.domains.size() + 1);
            }
            int[] names = model.rows.get(row).names;
            return names[random.nextInt(names.length)];
        }

        private long[] drawPlace(int row) {
            int name = nameOf(row);
            return list(odd(row), odd(name), odd(valueOf(name)));
        }

        private long[] drawCost() {
            int row = rowOf("dear");
            int name = nameOf(row);
            return list(odd(row), odd(name), odd(valueOf(name)), odd(random.nextInt(41) - 20));
        }

        private long[] drawKeep() {
            int name = below(model.domains.size());
            int values = random.nextInt(12) == 0 ? random.nextInt(4096) : 4095 & ~(1 << valueOf(name));
            // A full plan that stays gives the run more to do than one that is lost soon.
            return list(odd(name), odd(random.nextInt(8) == 0 ? values : values | 1 << scene.hidden[name]));
        }

        private int drawPlanNumber() {
            long plans = model.plans();
            int[] some = {0, 1, (int) plans - 1, (int) plans, below((int) Math.max(plans, 1)), below((int) Math.max(plans, 1))};
            return some[random.nextInt(some.length)];
        }
    }

    /** Names and rows around a full plan that is drawn first, so that the rows do not shut each other out. */
    private static final class Scene {
        private final Run run;
        private final Random random;
        final int[] hidden = new int[16];
        private final int names;
        private final int pairs;
        private final int extra;
        private final List<Integer> order = new ArrayList<>();
        private final List<Integer> turn = new ArrayList<>();
        private int[] first;
        private int[] second;

        Scene(Run run, Random random) {
            this.run = run;
            this.random = random;
            int kind = random.nextInt(3);
            this.names = kind == 0 ? 6 + random.nextInt(3) : kind == 1 ? 8 + random.nextInt(5) : 12 + random.nextInt(5);
            this.extra = kind == 0 ? 6 : kind == 1 ? 4 : 3;
            this.pairs = 2 + random.nextInt(names / 2 - 1);
        }

        void build() {
            hide();
            for (int n = 0; n < names; n++) {
                run.call("name", domainAround(hidden[n]));
            }
            if (run.calls >= CALLS) {
                return;
            }
            List<String> sorts = new ArrayList<>(List.of("different", "counted", "same", "turned", "kinds", "dear"));
            sorts.addAll(List.of("different", "counted", "kinds", "dear").subList(0, random.nextInt(5)));
            Collections.shuffle(sorts, random);
            for (String sort : sorts) {
                lay(sort);
            }
        }

        private void hide() {
            for (int n = 0; n < names; n++) {
                order.add(n);
                hidden[n] = random.nextInt(6);
            }
            Collections.shuffle(order, random);
            first = sorted(order.subList(0, pairs));
            second = sorted(order.subList(pairs, 2 * pairs));
            for (int i = 0; i < pairs; i++) {
                turn.add(i);
            }
            Collections.shuffle(turn, random);
            for (int i = 0; i < pairs; i++) {
                hidden[first[i]] = turn.get(i);
                hidden[second[turn.get(i)]] = i;
            }
        }

        private void lay(String sort) {
            switch (sort) {
                case "different": run.call("different", differing()); break;
                case "counted": layCounted(); break;
                case "same": laySame(); break;
                case "turned": run.call("turned", bits(first), bits(second)); break;
                case "kinds": layKinds(); break;
                default: layDear(); break;
            }
        }

        private static int[] sorted(List<Integer> some) {
            return some.stream().mapToInt(n -> n).sorted().toArray();
        }

        private static int bits(int[] some) {
            return Arrays.stream(some).map(n -> 1 << n).sum();
        }

        private int domainAround(int value) {
            int domain = 1 << value;
            int more = random.nextInt(extra + 1);
            int reach = random.nextInt(5) == 0 ? 12 : 6;
            for (int i = 0; i < more; i++) {
                domain |= 1 << random.nextInt(reach);
            }
            return domain;
        }

        /** Names whose values in the plan differ; now and then one more, so that the row may have no plan. */
        private int differing() {
            Collections.shuffle(order, random);
            int set = 0;
            int used = 0;
            for (int n : order) {
                boolean fresh = (used >> hidden[n] & 1) == 0 || random.nextInt(80) == 0;
                if (fresh && Integer.bitCount(set) < 8) {
                    set |= 1 << n;
                    used |= 1 << hidden[n];
                }
            }
            return set;
        }

        private int some() {
            Collections.shuffle(order, random);
            int set = 0;
            int size = 3 + random.nextInt(Math.min(names, 8) - 2);
            for (int n : order.subList(0, size)) {
                set |= 1 << n;
            }
            return set;
        }

        private int howOften(int set, int value) {
            int count = 0;
            for (int n = 0; n < names; n++) {
                count += (set >> n & 1) != 0 && hidden[n] == value ? 1 : 0;
            }
            return count;
        }

        private void layCounted() {
            int set = some();
            long row = run.call("counted", set);
            for (int v = 0; v < 12; v++) {
                int count = howOften(set, v);
                if (random.nextInt(3) != 0) {
                    run.call("limits", row, v, Math.max(0, count - random.nextInt(3)), Math.min(8, count + random.nextInt(3)));
                }
            }
        }

        /** Those of the second set that have what some of the first have. */
        private void laySame() {
            int size = 1 + random.nextInt(Math.min(pairs, 5));
            int a = 0;
            int b = 0;
            for (int i = 0; i < size; i++) {
                a |= 1 << first[i];
                b |= 1 << second[turn.get(turn.get(i))];
            }
            boolean swap = random.nextBoolean();
            run.call("same", swap ? b : a, swap ? a : b);
        }

        private void layKinds() {
            int set = some();
            int count = 0;
            for (int v = 0; v < 12; v++) {
                count += howOften(set, v) > 0 ? 1 : 0;
            }
            run.call("kinds", set, Math.max(0, count - random.nextInt(2)), count + random.nextInt(2));
        }

        private void layDear() {
            int set = differing();
            int range = random.nextBoolean() ? 4 : 1000;
            int[] c = new int[16 * 12];
            int sum = 0;
            for (int n = 0; n < names; n++) {
                for (int v = 0; v < 12; v++) {
                    c[n * 12 + v] = random.nextInt(2 * range + 1) - range;
                }
                sum += (set >> n & 1) != 0 ? c[n * 12 + hidden[n]] : 0;
            }
            long row = run.call("dear", set, sum + random.nextInt(range));
            for (int n = 0; n < names; n++) {
                for (int v = 0; v < 12; v++) {
                    if ((set >> n & 1) != 0 && (run.model.domains.get(n) >> v & 1) != 0) {
                        run.call("cost", row, n, v, c[n * 12 + v]);
                    }
                }
            }
        }
    }

    private static String answer(DifferentValues x, String name, long[] a) {
        try {
            return String.valueOf(ask(x, name, a));
        } catch (RuntimeException e) {
            return "throws." + e.getClass().getSimpleName();
        }
    }

    private static long ask(DifferentValues x, String name, long[] a) {
        int p = a.length > 0 ? (int) a[0] : 0;
        int q = a.length > 1 ? (int) a[1] : 0;
        int r = a.length > 2 ? (int) a[2] : 0;
        switch (name) {
            case "name": return x.name(p);
            case "different": return x.different(p);
            case "counted": return x.counted(p);
            case "limits": return x.limits(p, q, r, (int) a[3]);
            case "same": return x.same(p, q);
            case "turned": return x.turned(p, q);
            case "kinds": return x.kinds(p, q, r);
            case "dear": return x.dear(p, a[1]);
            case "cost": return x.cost(p, q, r, (int) a[3]);
            case "domain": return x.domain(p);
            case "keep": return x.keep(p, q);
            case "run": return x.run();
            case "in": return x.in(p, q, r);
            case "blocked": return x.blocked();
            case "reason": return x.reason(p, q, r);
            case "great": return x.great(p);
            case "ways": return x.ways(p);
            case "end": return x.end(p, q);
            case "sure": return x.sure(p);
            case "mark": return x.mark();
            case "back": return x.back(p);
            case "plans": return x.plans();
            case "plan": return x.plan(p, q);
            case "told": return x.told(p);
            case "clear": x.clear(); return 0;
            default: throw new AssertionError(name);
        }
    }

    private static final class ModelRow {
        final String sort;
        final int[] names;
        final int half;
        final int[] low = new int[12];
        final int[] high = new int[12];
        final int[][] costs = new int[16][12];
        long most;
        private String seenBy = "";
        private Facts seen;

        /** Of two sets the names of the first stand before those of the second. */
        ModelRow(String sort, int[] first, int[] second) {
            this.sort = sort;
            this.half = first.length;
            this.names = Arrays.copyOf(first, first.length + second.length);
            System.arraycopy(second, 0, names, half, second.length);
        }

        Facts facts(List<Integer> domains) {
            StringBuilder key = new StringBuilder();
            for (int n : names) {
                key.append(domains.get(n)).append(' ');
            }
            if (!key.toString().equals(seenBy)) {
                seenBy = key.toString();
                seen = new Facts(this, domains);
            }
            return seen;
        }

        void changed() {
            seenBy = "";
        }

        /** What matters of the values so far, when the name at place i has the value; -1 if no plan goes on from there. */
        long step(long so, int i, int v) {
            switch (sort) {
                case "different": return (so >> v & 1) != 0 ? -1 : so | 1L << v;
                case "counted": return (so >> 4 * v & 15) >= high[v] ? -1 : so + (1L << 4 * v);
                case "same": return i < half ? so + (1L << 4 * v) : (so >> 4 * v & 15) == 0 ? -1 : so - (1L << 4 * v);
                case "turned": return stepTurned(so, i, v);
                case "kinds": return so | 1L << v;
                default: return (so >> v & 1) != 0 ? -1 : (so | 1L << v) + ((long) costs[names[i]][v] + 1000 << 12);
            }
        }

        /** The values of the first set stay, the second is held against them. */
        private long stepTurned(long so, int i, int v) {
            if (v >= half) {
                return -1;
            }
            if (i < half) {
                return so | (long) v << 4 * i;
            }
            for (int other = 0; other < half; other++) {
                boolean points = (so >> 4 * other & 15) == i - half;
                if (points != (other == v)) {
                    return -1;
                }
            }
            return so;
        }

        /** Of a row that is kinds or dear, what its bounds look at. */
        long measure(long so) {
            return sort.equals("kinds") ? Long.bitCount(so) : (so >> 12) - 1000L * names.length;
        }

        boolean isPlan(long so) {
            switch (sort) {
                case "counted": return isCounted(so);
                case "same": return so == 0;
                case "kinds": return measure(so) >= low[0] && measure(so) <= high[0];
                case "dear": return measure(so) <= most;
                default: return true;
            }
        }

        private boolean isCounted(long so) {
            for (int v = 0; v < 12; v++) {
                if ((so >> 4 * v & 15) < low[v]) {
                    return false;
                }
            }
            return true;
        }
    }

    private static final class Facts {
        final int[] in = new int[16];
        long combinations = 1;
        long plans = 0;
        long least = Long.MAX_VALUE;
        long greatest = Long.MIN_VALUE;

        Facts(ModelRow row, List<Integer> domains) {
            List<Map<Long, Long>> layers = new ArrayList<>();
            layers.add(Map.of(0L, 1L));
            for (int i = 0; i < row.names.length; i++) {
                int domain = domains.get(row.names[i]);
                combinations *= Integer.bitCount(domain);
                layers.add(next(row, layers.get(i), i, domain));
            }
            Map<Long, Boolean> alive = ends(row, layers.get(row.names.length));
            for (int i = row.names.length - 1; i >= 0; i--) {
                alive = before(row, layers.get(i), i, domains.get(row.names[i]), alive);
            }
        }

        private Map<Long, Long> next(ModelRow row, Map<Long, Long> layer, int i, int domain) {
            Map<Long, Long> next = new HashMap<>();
            layer.forEach((so, ways) -> {
                for (int v = 0; v < 12; v++) {
                    long then = (domain >> v & 1) != 0 ? row.step(so, i, v) : -1;
                    if (then != -1) {
                        next.merge(then, ways, Long::sum);
                    }
                }
            });
            return next;
        }

        private Map<Long, Boolean> ends(ModelRow row, Map<Long, Long> layer) {
            Map<Long, Boolean> alive = new HashMap<>();
            layer.forEach((so, ways) -> {
                least = Math.min(least, row.measure(so));
                greatest = Math.max(greatest, row.measure(so));
                if (row.isPlan(so)) {
                    plans += ways;
                    alive.put(so, true);
                }
            });
            return alive;
        }

        private Map<Long, Boolean> before(ModelRow row, Map<Long, Long> layer, int i, int domain, Map<Long, Boolean> alive) {
            Map<Long, Boolean> before = new HashMap<>();
            for (long so : layer.keySet()) {
                for (int v = 0; v < 12; v++) {
                    long then = (domain >> v & 1) != 0 ? row.step(so, i, v) : -1;
                    if (then != -1 && alive.containsKey(then)) {
                        before.put(so, true);
                        in[row.names[i]] |= 1 << v;
                    }
                }
            }
            return before;
        }
    }

    private static final class Model {
        final List<Integer> domains = new ArrayList<>();
        final List<ModelRow> rows = new ArrayList<>();
        final List<List<Integer>> marks = new ArrayList<>();

        String answer(String name, long[] a) {
            try {
                return String.valueOf(value(name, a));
            } catch (IllegalArgumentException | IllegalStateException e) {
                return "throws." + e.getClass().getSimpleName();
            }
        }

        private long value(String name, long[] a) {
            switch (name) {
                case "name": return name(a[0]);
                case "different", "counted": return row(name, a[0], 0, true, 8);
                case "same": return row(name, a[0], a[1], true, 5);
                case "turned": return row(name, a[0], a[1], true, 8);
                case "kinds": return kinds(a[0], a[1], a[2]);
                case "dear": return dear(a[0], a[1]);
                case "limits": return limits(a[0], a[1], a[2], a[3]);
                case "cost": return cost(a[0], a[1], a[2], a[3]);
                case "domain": return isName(a[0]) ? domains.get((int) a[0]) : -1;
                case "keep": return keep(a[0], a[1]);
                case "run": return rest();
                case "in": return in(a[0], a[1], a[2]);
                case "blocked": return blocked();
                case "reason": return reason(a[0], a[1], a[2]);
                case "great": return great(a[0]);
                case "ways": return ways(a[0]);
                case "end": return end(a[0], a[1]);
                case "sure": return sure(a[0]);
                case "mark": return mark();
                case "back": return back(a[0]);
                case "plans": return plans();
                case "plan": return plan(a[0], a[1]);
                case "told": return told(a[0]);
                default: return clear();
            }
        }

        boolean allSortsShareAName() {
            int[] sorts = new int[16];
            List<String> all = List.of("different", "counted", "same", "turned", "kinds", "dear");
            for (ModelRow row : rows) {
                for (int n : row.names) {
                    sorts[n] |= 1 << all.indexOf(row.sort);
                }
            }
            return Arrays.stream(sorts).anyMatch(s -> s == 63);
        }

        long howManyValues() {
            return domains.stream().mapToLong(Integer::bitCount).sum();
        }

        private boolean isName(long n) {
            return n >= 0 && n < domains.size();
        }

        private ModelRow rowAt(long r, String... sorts) {
            ModelRow row = r >= 0 && r < rows.size() ? rows.get((int) r) : null;
            return row == null || sorts.length > 0 && !List.of(sorts).contains(row.sort) ? null : row;
        }

        private static boolean has(ModelRow row, long n) {
            return Arrays.stream(row.names).anyMatch(m -> m == n);
        }

        private static boolean within(long low, long number, long high) {
            return low <= number && number <= high;
        }

        private int[] namesOf(long set) {
            return java.util.stream.IntStream.range(0, 16).filter(n -> (set >> n & 1) != 0).toArray();
        }

        private long clear() {
            domains.clear();
            rows.clear();
            marks.clear();
            return 0;
        }

        private long name(long domain) {
            if (!within(1, domain, 4095)) return -2;
            if (!marks.isEmpty()) return -3;
            if (domains.size() == 16) return -4;
            domains.add((int) domain);
            return domains.size() - 1;
        }

        /** The second set is none, but of a row that is same or turned. */
        private long row(String sort, long a, long b, boolean inRange, int most) {
            boolean two = sort.equals("same") || sort.equals("turned");
            long known = (1L << domains.size()) - 1;
            if (a < 0 || b < 0 || (a & ~known) != 0 || (b & ~known) != 0) return -1;
            int[] first = namesOf(a);
            int[] second = namesOf(b);
            if (!inRange || !within(1, first.length, most)) return -2;
            if (two && (first.length != second.length || (a & b) != 0)) return -2;
            if (!marks.isEmpty()) return -3;
            if (rows.size() == 12) return -4;
            ModelRow row = new ModelRow(sort, first, second);
            Arrays.fill(row.high, 8);
            rows.add(row);
            return rows.size() - 1;
        }

        private long kinds(long set, long low, long high) {
            long number = row("kinds", set, 0, within(0, low, 12) && within(low, high, 12), 8);
            if (number >= 0) {
                rows.get((int) number).low[0] = (int) low;
                rows.get((int) number).high[0] = (int) high;
            }
            return number;
        }

        private long dear(long set, long most) {
            long number = row("dear", set, 0, within(-1000000, most, 1000000), 8);
            if (number >= 0) {
                rows.get((int) number).most = most;
            }
            return number;
        }

        private long limits(long r, long v, long low, long high) {
            ModelRow row = rowAt(r, "counted");
            if (row == null) return -1;
            if (!within(0, v, 11) || !within(0, low, 8) || !within(low, high, 8)) return -2;
            if (!marks.isEmpty()) return -3;
            long before = 16 * row.low[(int) v] + row.high[(int) v];
            row.low[(int) v] = (int) low;
            row.high[(int) v] = (int) high;
            row.changed();
            return before;
        }

        private long cost(long r, long n, long v, long c) {
            ModelRow row = rowAt(r, "dear");
            if (row == null || !has(row, n)) return -1;
            if (!within(0, v, 11) || !within(-1000, c, 1000)) return -2;
            if (!marks.isEmpty()) return -3;
            long before = row.costs[(int) n][(int) v];
            row.costs[(int) n][(int) v] = (int) c;
            row.changed();
            return before + 1000;
        }

        private long keep(long n, long values) {
            if (!isName(n)) return -1;
            if (!within(0, values, 4095)) return -2;
            int before = domains.get((int) n);
            int left = before & (int) values;
            if (left == 0) return -3;
            domains.set((int) n, left);
            return Integer.bitCount(before & ~left);
        }

        private long rest() {
            List<Integer> before = new ArrayList<>(domains);
            long many = howManyValues();
            boolean again = true;
            while (again) {
                again = false;
                for (ModelRow row : rows) {
                    Facts facts = row.facts(domains);
                    for (int n : row.names) {
                        again |= facts.in[n] != domains.get(n);
                        domains.set(n, facts.in[n]);
                    }
                    if (domains.contains(0)) {
                        domains.clear();
                        domains.addAll(before);
                        return -3;
                    }
                }
            }
            return many - howManyValues();
        }

        private long in(long r, long n, long v) {
            ModelRow row = rowAt(r);
            if (row == null || !has(row, n)) return -1;
            if (!within(0, v, 11)) return -2;
            return row.facts(domains).in[(int) n] >> v & 1;
        }

        private long blocked() {
            for (int r = 0; r < rows.size(); r++) {
                if (rows.get(r).facts(domains).plans == 0) return r;
            }
            return -1;
        }

        private long reason(long r, long n, long v) {
            ModelRow row = rowAt(r, "different");
            if (row == null || !has(row, n)) return -1;
            if (!within(0, v, 11) || (domains.get((int) n) >> v & 1) == 0) return -2;
            if (row.facts(domains).plans == 0) return -3;
            return (row.facts(domains).in[(int) n] >> v & 1) != 0 ? 0 : leastTight(row, (int) n, (int) v);
        }

        private long leastTight(ModelRow row, int without, int v) {
            long best = 0;
            for (int choice = 1; choice < 1 << row.names.length; choice++) {
                int set = 0;
                int union = 0;
                for (int i = 0; i < row.names.length; i++) {
                    set |= (choice >> i & 1) << row.names[i];
                    union |= (choice >> i & 1) * domains.get(row.names[i]);
                }
                boolean tight = Integer.bitCount(union) == Integer.bitCount(set);
                boolean fits = tight && (set >> without & 1) == 0 && (union >> v & 1) != 0;
                best = fits && (best == 0 || Integer.bitCount(set) < Long.bitCount(best)) ? set : best;
            }
            return best;
        }

        private long great(long r) {
            ModelRow row = rowAt(r, "different");
            if (row == null) return -1;
            long set = 0;
            for (int n : row.names) {
                set |= mostDiffering(row, n) == mostDiffering(row, -1) ? 1L << n : 0;
            }
            return set;
        }

        /** For each set of values whether so many of the names so far can have just these. */
        private int mostDiffering(ModelRow row, int without) {
            boolean[] can = new boolean[4096];
            can[0] = true;
            int most = 0;
            for (int n : row.names) {
                for (int used = 4095; used >= 0 && n != without; used--) {
                    for (int v = 0; v < 12 && can[used]; v++) {
                        boolean free = (domains.get(n) & ~used & 1 << v) != 0;
                        can[used | 1 << v] |= free;
                        most = free ? Math.max(most, Integer.bitCount(used) + 1) : most;
                    }
                }
            }
            return most;
        }

        private long ways(long r) {
            ModelRow row = rowAt(r, "different");
            if (row == null) throw new IllegalArgumentException();
            return row.facts(domains).plans;
        }

        private long end(long r, long what) {
            ModelRow row = rowAt(r, "kinds", "dear");
            if (row == null || !within(0, what, 1)) throw new IllegalArgumentException();
            Facts facts = row.facts(domains);
            if (facts.least > facts.greatest) throw new IllegalStateException();
            return what == 0 ? facts.least : facts.greatest;
        }

        private long sure(long r) {
            ModelRow row = rowAt(r);
            if (row == null) return -1;
            return row.facts(domains).plans == row.facts(domains).combinations ? 1 : 0;
        }

        private long mark() {
            if (marks.size() == 20) return -4;
            marks.add(List.copyOf(domains));
            return marks.size();
        }

        private long back(long m) {
            if (!within(1, m, marks.size())) return -1;
            long before = howManyValues();
            List<Integer> then = marks.get((int) m - 1);
            domains.clear();
            domains.addAll(then);
            marks.subList((int) m - 1, marks.size()).clear();
            return howManyValues() - before;
        }

        long plans() {
            List<int[]> all = fullPlans();
            return all == null ? -4 : all.size();
        }

        private long plan(long k, long n) {
            if (!isName(n)) return -1;
            List<int[]> all = fullPlans();
            if (all == null) return -4;
            return within(0, k, all.size() - 1) ? all.get((int) k)[(int) n] : -2;
        }

        /** None if they are too many to look at. */
        private List<int[]> fullPlans() {
            long product = 1;
            for (int d : domains) {
                product = Math.min(product * Integer.bitCount(d), 1000000);
            }
            List<int[]> all = new ArrayList<>();
            addPlans(new int[domains.size()], 0, product > 20000 ? null : all);
            return product > 20000 ? null : all;
        }

        private void addPlans(int[] values, int n, List<int[]> all) {
            if (all == null) {
                return;
            }
            if (n == values.length) {
                if (rows.stream().allMatch(row -> isPlan(row, values))) {
                    all.add(values.clone());
                }
                return;
            }
            for (int v = 0; v < 12; v++) {
                if ((domains.get(n) >> v & 1) != 0) {
                    values[n] = v;
                    addPlans(values, n + 1, all);
                }
            }
        }

        private static boolean isPlan(ModelRow row, int[] values) {
            long so = 0;
            for (int i = 0; i < row.names.length && so != -1; i++) {
                so = row.step(so, i, values[row.names[i]]);
            }
            return so != -1 && row.isPlan(so);
        }

        private long told(long what) {
            if (!within(0, what, 4)) return -2;
            if (what == 0) return domains.size();
            if (what == 1) return rows.size();
            if (what == 2) return marks.size();
            if (what == 3) return howManyValues();
            long sum = 0;
            for (ModelRow row : rows) {
                for (int n : row.names) {
                    sum += Integer.bitCount(domains.get(n) & ~row.facts(domains).in[n]);
                }
            }
            return sum;
        }
    }
}
