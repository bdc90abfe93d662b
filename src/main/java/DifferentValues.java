import java.util.Arrays;

/**
 * Names with domains, and rows that say how the values of their names must differ.
 * The promises of each call stand in DOC.md.
 */
public final class DifferentValues {
    public static final int NONE = -1;

    private static final int UNKNOWN = -1;
    private static final int OUTSIDE = -2;
    private static final int NOT_SO = -3;
    private static final int NO_ROOM = -4;
    private static final int ACCEPTED = 0;

    private static final int MOST_NAMES = 16;
    private static final int MOST_ROWS = 12;
    private static final int MOST_MARKS = 20;
    private static final int VALUES = 12;
    private static final int ALL_VALUES = (1 << VALUES) - 1;
    private static final int ROW_NAMES = 8;
    private static final int SAME_NAMES = 5;
    private static final int MOST_COUNT = 8;
    private static final int COST_BOUND = 1000;
    private static final int SUM_BOUND = 1000000;
    private static final int MOST_TRIES = 20000;

    private final int[] domains = new int[MOST_NAMES];
    private final int[] rest = new int[MOST_NAMES];
    private final int[] may = new int[MOST_NAMES];
    private final int[] kept = new int[MOST_MARKS * MOST_NAMES];
    private final Row[] rows = new Row[MOST_ROWS];
    private final Spread spread = new Spread();
    private final Cheapest cheapest = new Cheapest();
    private final int[] trial = new int[MOST_NAMES];
    private final PlanList planList = new PlanList();
    private int nameCount;
    private int rowCount;
    private int markCount;

    public DifferentValues() {
    }

    public void clear() {
        for (int r = 0; r < MOST_ROWS; r++) {
            rows[r] = null;
        }
        nameCount = 0;
        rowCount = 0;
        markCount = 0;
        planList.forget();
    }

    public int name(int domain) {
        if (domain < 1 || domain > ALL_VALUES) {
            return OUTSIDE;
        }
        if (markCount > 0) {
            return NOT_SO;
        }
        if (nameCount >= MOST_NAMES) {
            return NO_ROOM;
        }
        int number = nameCount;
        domains[number] = domain;
        nameCount++;
        planList.forget();
        return number;
    }

    public int different(int set) {
        int code = refusal(set, true);
        return code != ACCEPTED ? code : add(new Different(set, spread));
    }

    public int counted(int set) {
        int code = refusal(set, true);
        return code != ACCEPTED ? code : add(new Counted(set, spread));
    }

    public int limits(int row, int value, int low, int high) {
        Counted counted = countedAt(row);
        if (counted == null) {
            return UNKNOWN;
        }
        if (!isValue(value) || !isSpan(low, high, MOST_COUNT)) {
            return OUTSIDE;
        }
        if (markCount > 0) {
            return NOT_SO;
        }
        int before = 16 * counted.low[value] + counted.high[value];
        counted.low[value] = low;
        counted.high[value] = high;
        planList.forget();
        return before;
    }

    public int same(int a, int b) {
        int code = pairRefusal(a, b, SAME_NAMES);
        return code != ACCEPTED ? code : add(new Same(a, b, spread));
    }

    public int turned(int a, int b) {
        int code = pairRefusal(a, b, ROW_NAMES);
        return code != ACCEPTED ? code : add(new Turned(a, b, spread));
    }

    public int kinds(int set, int low, int high) {
        int code = refusal(set, isSpan(low, high, VALUES));
        return code != ACCEPTED ? code : add(new Kinds(set, low, high, spread));
    }

    public int dear(int set, long most) {
        int code = refusal(set, most >= -SUM_BOUND && most <= SUM_BOUND);
        return code != ACCEPTED ? code : add(new Dear(set, (int) most, cheapest));
    }

    public int cost(int row, int name, int value, int c) {
        Dear dear = dearAt(row);
        if (dear == null || !dear.has(name)) {
            return UNKNOWN;
        }
        if (!isValue(value) || c < -COST_BOUND || c > COST_BOUND) {
            return OUTSIDE;
        }
        if (markCount > 0) {
            return NOT_SO;
        }
        int index = dear.placeOf(name) * VALUES + value;
        int before = dear.costs[index];
        dear.costs[index] = c;
        planList.forget();
        return before + COST_BOUND;
    }

    public int domain(int name) {
        return isName(name) ? domains[name] : UNKNOWN;
    }

    public int keep(int name, int values) {
        if (!isName(name)) {
            return UNKNOWN;
        }
        if (values < 0 || values > ALL_VALUES) {
            return OUTSIDE;
        }
        int left = domains[name] & values;
        if (left == 0) {
            return NOT_SO;
        }
        int gone = Integer.bitCount(domains[name]) - Integer.bitCount(left);
        domains[name] = left;
        planList.forget();
        return gone;
    }

    public int run() {
        System.arraycopy(domains, 0, rest, 0, MOST_NAMES);
        int stale = (1 << MOST_NAMES) - 1;
        // Each round but the last takes a value away, and there are no more than these.
        for (int round = 0; round <= MOST_NAMES * VALUES && stale != 0; round++) {
            stale = narrowRest(stale);
            if (stale == NONE) {
                return NOT_SO;
            }
        }
        int gone = valuesIn(domains) - valuesIn(rest);
        // The list of full plans stays as it is: what went was in none of them.
        System.arraycopy(rest, 0, domains, 0, MOST_NAMES);
        return gone;
    }

    public int in(int row, int name, int value) {
        Row asked = rowAt(row);
        if (asked == null || !asked.has(name)) {
            return UNKNOWN;
        }
        if (!isValue(value)) {
            return OUTSIDE;
        }
        asked.look(domains, may);
        return may[name] >> value & 1;
    }

    public int blocked() {
        for (int r = 0; r < rowCount; r++) {
            rows[r].look(domains, may);
            if (may[rows[r].last] == 0) {
                return r;
            }
        }
        return NONE;
    }

    public int reason(int row, int name, int value) {
        Different different = differentAt(row);
        if (different == null || !different.has(name)) {
            return UNKNOWN;
        }
        if (!isValue(value) || (domains[name] >> value & 1) == 0) {
            return OUTSIDE;
        }
        different.look(domains, may);
        if (may[name] == 0) {
            return NOT_SO;
        }
        return (may[name] >> value & 1) != 0 ? 0 : different.holdersFrom(value);
    }

    public int great(int row) {
        Different different = differentAt(row);
        return different == null ? UNKNOWN : different.spareNames(domains);
    }

    public long ways(int row) throws IllegalArgumentException {
        Different different = differentAt(row);
        if (different == null) {
            throw new IllegalArgumentException("no such row that is different");
        }
        return different.howManyPlans(domains);
    }

    public long end(int row, int what) throws IllegalArgumentException, IllegalStateException {
        if (what < 0 || what > 1) {
            throw new IllegalArgumentException("no such end");
        }
        Kinds kinds = kindsAt(row);
        if (kinds != null) {
            return what == 0 ? kinds.fewest(domains) : kinds.most(domains);
        }
        Dear dear = dearAt(row);
        if (dear == null) {
            throw new IllegalArgumentException("no such row that is kinds or dear");
        }
        int sign = what == 0 ? 1 : -1;
        if (!dear.settle(domains, sign)) {
            throw new IllegalStateException("two must have one value");
        }
        return sign * cheapest.sum();
    }

    public int sure(int row) {
        Row asked = rowAt(row);
        if (asked == null) {
            return UNKNOWN;
        }
        return asked.always(domains) ? 1 : 0;
    }

    public int mark() {
        if (markCount >= MOST_MARKS) {
            return NO_ROOM;
        }
        System.arraycopy(domains, 0, kept, markCount * MOST_NAMES, MOST_NAMES);
        markCount++;
        return markCount;
    }

    public int back(int m) {
        if (m < 1 || m > markCount) {
            return UNKNOWN;
        }
        int before = valuesIn(domains);
        System.arraycopy(kept, (m - 1) * MOST_NAMES, domains, 0, MOST_NAMES);
        markCount = m - 1;
        planList.forget();
        return valuesIn(domains) - before;
    }

    public int plans() {
        return tooManyTries() ? NO_ROOM : countPlans();
    }

    public int plan(int k, int name) {
        if (!isName(name)) {
            return UNKNOWN;
        }
        if (tooManyTries()) {
            return NO_ROOM;
        }
        if (k < 0 || k >= countPlans()) {
            return OUTSIDE;
        }
        return planList.valueIn(k, name);
    }

    public int told(int what) {
        switch (what) {
            case 0:
                return nameCount;
            case 1:
                return rowCount;
            case 2:
                return markCount;
            case 3:
                return valuesIn(domains);
            case 4:
                return valuesInNoPlan();
            default:
                return OUTSIDE;
        }
    }

    private boolean isName(int name) {
        return name >= 0 && name < nameCount;
    }

    private static boolean isValue(int value) {
        return value >= 0 && value < VALUES;
    }

    private static boolean isSpan(int low, int high, int most) {
        return low >= 0 && low <= high && high <= most;
    }

    private boolean isUnknownSet(int set) {
        return set < 0 || set >> nameCount != 0;
    }

    private static boolean isSized(int set, int most) {
        return set != 0 && Integer.bitCount(set) <= most;
    }

    private int refusal(int set, boolean inRange) {
        if (isUnknownSet(set)) {
            return UNKNOWN;
        }
        return inRange && isSized(set, ROW_NAMES) ? roomForRow() : OUTSIDE;
    }

    private int pairRefusal(int a, int b, int most) {
        if (isUnknownSet(a) || isUnknownSet(b)) {
            return UNKNOWN;
        }
        boolean even = Integer.bitCount(a) == Integer.bitCount(b) && (a & b) == 0;
        return even && isSized(a, most) ? roomForRow() : OUTSIDE;
    }

    private int roomForRow() {
        if (markCount > 0) {
            return NOT_SO;
        }
        return rowCount >= MOST_ROWS ? NO_ROOM : ACCEPTED;
    }

    private int add(Row row) {
        int number = rowCount;
        rows[number] = row;
        rowCount++;
        planList.forget();
        return number;
    }

    private Row rowAt(int row) {
        return row >= 0 && row < rowCount ? rows[row] : null;
    }

    private Different differentAt(int row) {
        if (rowAt(row) instanceof Different different) {
            return different;
        }
        return null;
    }

    private Counted countedAt(int row) {
        if (rowAt(row) instanceof Counted counted) {
            return counted;
        }
        return null;
    }

    private Kinds kindsAt(int row) {
        if (rowAt(row) instanceof Kinds kinds) {
            return kinds;
        }
        return null;
    }

    private Dear dearAt(int row) {
        if (rowAt(row) instanceof Dear dear) {
            return dear;
        }
        return null;
    }

    private int valuesIn(int[] some) {
        int sum = 0;
        for (int n = 0; n < nameCount; n++) {
            sum += Integer.bitCount(some[n]);
        }
        return sum;
    }

    private int valuesInNoPlan() {
        int sum = 0;
        for (int r = 0; r < rowCount; r++) {
            rows[r].look(domains, may);
            for (int n : rows[r].members) {
                sum += Integer.bitCount(domains[n] & ~may[n]);
            }
        }
        return sum;
    }

    /** Cuts the rest by the rows over stale names: the set of names that lost values, NONE if one lost all of them. */
    private int narrowRest(int stale) {
        int changed = 0;
        for (int r = 0; r < rowCount; r++) {
            // A row takes away all it can at once, so it need not look again before another row cuts its names.
            if ((rows[r].set & stale) == 0) {
                continue;
            }
            rows[r].look(rest, may);
            for (int n : rows[r].members) {
                if (may[n] == 0) {
                    return NONE;
                }
                changed |= rest[n] != may[n] ? 1 << n : 0;
                rest[n] = may[n];
            }
        }
        return changed;
    }

    private boolean tooManyTries() {
        int product = 1;
        for (int n = 0; n < nameCount && product <= MOST_TRIES; n++) {
            product *= Integer.bitCount(domains[n]);
        }
        return product > MOST_TRIES;
    }

    private int countPlans() {
        if (!planList.complete) {
            extendPlan(0, 0);
            planList.complete = true;
        }
        return planList.size;
    }

    /** Lists the full plans that begin so, up to the name whose number is the depth. */
    private void extendPlan(int depth, long start) {
        if (depth >= nameCount) {
            planList.append(start);
            return;
        }
        for (int v = 0; v < VALUES; v++) {
            trial[depth] = v;
            if ((domains[depth] >> v & 1) != 0 && rowsHoldUpTo(depth)) {
                extendPlan(depth + 1, PlanList.with(start, depth, v));
            }
        }
    }

    private boolean rowsHoldUpTo(int name) {
        for (int r = 0; r < rowCount; r++) {
            if (rows[r].last == name && !rows[r].holds(trial)) {
                return false;
            }
        }
        return true;
    }

    private static int[] numbersIn(int set) {
        int[] numbers = new int[Integer.bitCount(set)];
        int at = 0;
        for (int n = 0; n < MOST_NAMES && at < numbers.length; n++) {
            if ((set >> n & 1) != 0) {
                numbers[at] = n;
                at++;
            }
        }
        return numbers;
    }

    /** A rule over a set of names that is never empty. */
    private abstract static class Row {
        static final int COUNT_BITS = 4;
        static final int COUNT_MASK = (1 << COUNT_BITS) - 1;

        final int set;
        final int[] members;
        final int last;

        Row(int set) {
            this.set = set;
            this.members = numbersIn(set);
            this.last = members.length > 0 ? members[members.length - 1] : 0;
        }

        /** Writes, for each member, the values that some plan gives it: none at all if there is no plan. */
        abstract void look(int[] domains, int[] may);

        /** Whether these values, one for each name, are a plan. */
        abstract boolean holds(int[] values);

        /** Whether whatever values of the domains are a plan. */
        abstract boolean always(int[] domains);

        boolean has(int name) {
            return name >= 0 && name < MOST_NAMES && (set >> name & 1) != 0;
        }

        void layOut(Spread spread, int[] domains) {
            spread.begin(members.length);
            for (int p = 0; p < members.length; p++) {
                spread.open[p] = domains[members[p]];
            }
        }

        void tellPossible(Spread spread, int[] may) {
            for (int p = 0; p < members.length; p++) {
                may[members[p]] = spread.possible(p);
            }
        }

        boolean allDiffer(int[] values) {
            int used = 0;
            for (int n : members) {
                if ((used >> values[n] & 1) != 0) {
                    return false;
                }
                used |= 1 << values[n];
            }
            return true;
        }

        /** How often each value is there, so many bits a value: enough for the names of a set. */
        static long counts(int[] names, int[] values) {
            long counts = 0;
            for (int n : names) {
                counts += 1L << COUNT_BITS * values[n];
            }
            return counts;
        }

        boolean haveNothingInCommon(int[] domains) {
            int used = 0;
            for (int n : members) {
                if ((used & domains[n]) != 0) {
                    return false;
                }
                used |= domains[n];
            }
            return true;
        }
    }

    private static final class Different extends Row {
        private final Spread spread;

        Different(int set, Spread spread) {
            super(set);
            this.spread = spread;
        }

        void look(int[] domains, int[] may) {
            layOut(spread, domains);
            spread.fill();
            tellPossible(spread, may);
        }

        boolean holds(int[] values) {
            return allDiffer(values);
        }

        boolean always(int[] domains) {
            return haveNothingInCommon(domains);
        }

        /**
         * After a look, for a value that is not possible for some other name: the least tight set with it.
         * Who has a value of a tight set must be in the set, so all must be whom one more on the value could push.
         */
        int holdersFrom(int value) {
            int holders = 0;
            for (int p = 0; p < members.length; p++) {
                holders |= spread.leads(value, p) ? 1 << members[p] : 0;
            }
            return holders;
        }

        int spareNames(int[] domains) {
            layOut(spread, domains);
            spread.leaveOut(members.length - spread.most());
            spread.fill();
            int spare = 0;
            for (int p = 0; p < members.length; p++) {
                spare |= (spread.possible(p) >> Spread.LEFT_OUT & 1) << members[p];
            }
            return spare;
        }

        long howManyPlans(int[] domains) {
            layOut(spread, domains);
            return spread.countWays();
        }
    }

    private static final class Counted extends Row {
        final int[] low = new int[VALUES];
        final int[] high = new int[VALUES];
        private final Spread spread;

        Counted(int set, Spread spread) {
            super(set);
            this.spread = spread;
            Arrays.fill(high, MOST_COUNT);
        }

        void look(int[] domains, int[] may) {
            layOut(spread, domains);
            for (int v = 0; v < VALUES; v++) {
                spread.low[v] = low[v];
                spread.high[v] = high[v];
            }
            spread.fill();
            tellPossible(spread, may);
        }

        boolean holds(int[] values) {
            long counts = counts(members, values);
            for (int v = 0; v < VALUES; v++) {
                int count = (int) (counts >> COUNT_BITS * v) & COUNT_MASK;
                if (count < low[v] || count > high[v]) {
                    return false;
                }
            }
            return true;
        }

        boolean always(int[] domains) {
            for (int v = 0; v < VALUES; v++) {
                int must = 0;
                int can = 0;
                for (int n : members) {
                    must += domains[n] == 1 << v ? 1 : 0;
                    can += domains[n] >> v & 1;
                }
                if (must < low[v] || can > high[v]) {
                    return false;
                }
            }
            return true;
        }
    }

    /** A rule whose plans pair each name of one set with one of the other, each pair by itself. */
    private abstract static class Pairs extends Row {
        final int[] first;
        final int[] second;
        private final Spread spread;

        Pairs(int a, int b, Spread spread) {
            super(a | b);
            this.first = numbersIn(a);
            this.second = numbersIn(b);
            this.spread = spread;
        }

        /** The values that name i of the first set can have if paired with name j of the second: none if it can't be. */
        abstract int forFirst(int[] domains, int i, int j);

        /** As forFirst, of name j of the second set. */
        abstract int forSecond(int[] domains, int i, int j);

        void look(int[] domains, int[] may) {
            for (int n : members) {
                may[n] = 0;
            }
            layOutPairs(domains);
            spread.fill();
            for (int i = 0; i < first.length; i++) {
                int mates = spread.possible(i);
                for (int j = 0; j < second.length; j++) {
                    if ((mates >> j & 1) != 0) {
                        may[first[i]] |= forFirst(domains, i, j);
                        may[second[j]] |= forSecond(domains, i, j);
                    }
                }
            }
        }

        /** One name that could change alone would break its pair, so all must be fixed. */
        boolean always(int[] domains) {
            for (int n : members) {
                if (Integer.bitCount(domains[n]) != 1) {
                    return false;
                }
            }
            layOutPairs(domains);
            return spread.fill();
        }

        private void layOutPairs(int[] domains) {
            spread.begin(first.length);
            for (int i = 0; i < first.length; i++) {
                int mates = 0;
                for (int j = 0; j < second.length; j++) {
                    mates |= forFirst(domains, i, j) != 0 ? 1 << j : 0;
                }
                spread.open[i] = mates;
            }
        }
    }

    private static final class Same extends Pairs {
        Same(int a, int b, Spread spread) {
            super(a, b, spread);
        }

        int forFirst(int[] domains, int i, int j) {
            return domains[first[i]] & domains[second[j]];
        }

        int forSecond(int[] domains, int i, int j) {
            return domains[first[i]] & domains[second[j]];
        }

        boolean holds(int[] values) {
            return counts(first, values) == counts(second, values);
        }
    }

    private static final class Turned extends Pairs {
        Turned(int a, int b, Spread spread) {
            super(a, b, spread);
        }

        int forFirst(int[] domains, int i, int j) {
            return meet(domains, i, j) ? 1 << j : 0;
        }

        int forSecond(int[] domains, int i, int j) {
            return meet(domains, i, j) ? 1 << i : 0;
        }

        /** Enough for both sides: by this no two of the first have one value, so each of the second is met. */
        boolean holds(int[] values) {
            for (int i = 0; i < first.length; i++) {
                int j = values[first[i]];
                if (j < 0 || j >= second.length || values[second[j]] != i) {
                    return false;
                }
            }
            return true;
        }

        private boolean meet(int[] domains, int i, int j) {
            return (domains[first[i]] >> j & domains[second[j]] >> i & 1) != 0;
        }
    }

    private static final class Kinds extends Row {
        private final int low;
        private final int high;
        private final Spread spread;

        Kinds(int set, int low, int high, Spread spread) {
            super(set);
            this.low = low;
            this.high = high;
            this.spread = spread;
        }

        /**
         * Going over from one plan to another name by name, the number of kinds changes by one at most:
         * so all numbers between the fewest and the most are there, and the two ends tell all.
         */
        void look(int[] domains, int[] may) {
            layOut(spread, domains);
            int few = valuesWithFew();
            int most = spread.most();
            // To give a name a certain value costs one kind at most, so it matters only here.
            boolean tense = most == low;
            if (tense) {
                spread.leaveOut(members.length - most);
                spread.fill();
            }
            for (int p = 0; p < members.length; p++) {
                int open = most < low ? 0 : domains[members[p]] & few;
                may[members[p]] = tense ? open & spread.possible(p) : open;
            }
        }

        boolean holds(int[] values) {
            int used = 0;
            for (int n : members) {
                used |= 1 << values[n];
            }
            int count = Integer.bitCount(used);
            return count >= low && count <= high;
        }

        boolean always(int[] domains) {
            return fewest(domains) >= low && most(domains) <= high;
        }

        int fewest(int[] domains) {
            layOut(spread, domains);
            spread.findFewest();
            return spread.fewestOfAll();
        }

        int most(int[] domains) {
            layOut(spread, domains);
            return spread.most();
        }

        private int valuesWithFew() {
            if (high >= members.length) {
                return ALL_VALUES;
            }
            spread.findFewest();
            int few = 0;
            for (int v = 0; v < VALUES; v++) {
                few |= spread.fewestWith(v) <= high ? 1 << v : 0;
            }
            return few;
        }
    }

    private static final class Dear extends Row {
        final int[] costs;
        private final int most;
        private final Cheapest cheapest;

        Dear(int set, int most, Cheapest cheapest) {
            super(set);
            this.costs = new int[members.length * VALUES];
            this.most = most;
            this.cheapest = cheapest;
        }

        int placeOf(int name) {
            return Integer.bitCount(set & (1 << name) - 1);
        }

        /** Looks for the least sum of the costs, each times the sign: whether there is any. */
        boolean settle(int[] domains, int sign) {
            cheapest.begin(members.length);
            for (int p = 0; p < members.length; p++) {
                cheapest.open[p] = domains[members[p]];
            }
            for (int i = 0; i < costs.length; i++) {
                cheapest.price[i] = sign * costs[i];
            }
            return cheapest.settle();
        }

        void look(int[] domains, int[] may) {
            boolean some = settle(domains, 1) && cheapest.sum() <= most;
            if (some) {
                cheapest.measure();
            }
            for (int p = 0; p < members.length; p++) {
                may[members[p]] = some ? cheapest.within(p, most) : 0;
            }
        }

        boolean holds(int[] values) {
            int sum = 0;
            for (int p = 0; p < members.length; p++) {
                sum += costs[p * VALUES + values[members[p]]];
            }
            return sum <= most && allDiffer(values);
        }

        boolean always(int[] domains) {
            int sum = 0;
            for (int p = 0; p < members.length; p++) {
                sum += dearest(p, domains[members[p]]);
            }
            return sum <= most && haveNothingInCommon(domains);
        }

        private int dearest(int p, int domain) {
            int worst = -COST_BOUND;
            for (int v = 0; v < VALUES; v++) {
                if ((domain >> v & 1) != 0) {
                    worst = Math.max(worst, costs[p * VALUES + v]);
                }
            }
            return worst;
        }
    }

    /** Gives each of some places a value open to it, each value as often as its bounds say. */
    private static final class Spread {
        /** Being left out is one value more, so that bounds can say how many are. */
        static final int LEFT_OUT = VALUES;
        private static final int CHOICES = VALUES + 1;
        /** Stands for what the bounds leave free: values that can bear one more lead to it, it leads to those that can bear one less. */
        private static final int ROOM = CHOICES;
        private static final int NODES = CHOICES + 1;
        private static final int NOWHERE = -1;

        final int[] open = new int[ROW_NAMES];
        final int[] low = new int[CHOICES];
        final int[] high = new int[CHOICES];
        private final int[] count = new int[CHOICES];
        private final int[] at = new int[ROW_NAMES];
        private final int[] mover = new int[CHOICES];
        private final int[] queue = new int[CHOICES];
        private final int[] reach = new int[NODES];
        private final int[] holders = new int[VALUES];
        private final long[] table = new long[1 << ROW_NAMES];
        private int places;
        private int seen;
        private int queued;
        private boolean full;

        /** Then the caller says what is open to each place, and other bounds than 0 and 1. */
        void begin(int howMany) {
            places = howMany;
            Arrays.fill(low, 0);
            Arrays.fill(high, 1);
            high[LEFT_OUT] = 0;
        }

        void leaveOut(int howMany) {
            for (int p = 0; p < places; p++) {
                open[p] |= 1 << LEFT_OUT;
            }
            low[LEFT_OUT] = howMany;
            high[LEFT_OUT] = howMany;
        }

        /** Looks for a spread of all places: whether there is one. */
        boolean fill() {
            takeAllOff();
            int needed = 0;
            for (int v = 0; v < CHOICES; v++) {
                needed += low[v];
            }
            // First what must be: places put down later never leave a value with less.
            int placed = needed > 0 ? placeAll(low) : 0;
            full = placed == needed && placed + placeAll(high) == places;
            if (full) {
                link();
            }
            return full;
        }

        /** How many places can have a value at once, the low bounds left aside. */
        int most() {
            takeAllOff();
            return placeAll(high);
        }

        /** After fill: the values that the place has in some spread. */
        int possible(int place) {
            int values = 0;
            for (int v = 0; v < CHOICES && full; v++) {
                if ((open[place] >> v & 1) != 0 && leads(v, place)) {
                    values |= 1 << v;
                }
            }
            return values;
        }

        /** After fill: whether one more on the value can be made good by one less on the place's value. */
        boolean leads(int value, int place) {
            return (reach[value] >> at[place] & 1) != 0;
        }

        /** In how many ways the places can have values, no two one value. */
        long countWays() {
            findHolders();
            Arrays.fill(table, 0);
            table[0] = 1;
            int all = (1 << places) - 1;
            for (int v = 0; v < VALUES; v++) {
                // Downwards, so that what is added was counted without this value.
                for (int group = all; group > 0; group--) {
                    addWays(group, group & holders[v]);
                }
            }
            return table[all];
        }

        /** Fills the table: for each group of places, how few values are enough for it. */
        void findFewest() {
            findHolders();
            table[0] = 0;
            for (int group = 1; group < 1 << places; group++) {
                table[group] = 1 + fewestBehind(group);
            }
        }

        int fewestOfAll() {
            return (int) table[(1 << places) - 1];
        }

        /** How few values are enough for all, if the value is one of them. */
        int fewestWith(int value) {
            return 1 + (int) table[(1 << places) - 1 & ~holders[value]];
        }

        private void takeAllOff() {
            Arrays.fill(at, NOWHERE);
            Arrays.fill(count, 0);
        }

        private int placeAll(int[] bound) {
            int placed = 0;
            for (int p = 0; p < places; p++) {
                if (at[p] == NOWHERE && place(p, bound)) {
                    placed++;
                }
            }
            return placed;
        }

        /** Puts down one place more, others moving on if they must: whether that can be. */
        private boolean place(int newcomer, int[] bound) {
            seen = 0;
            queued = 0;
            offer(newcomer);
            for (int head = 0; head < CHOICES && head < queued; head++) {
                int v = queue[head];
                if (count[v] < bound[v]) {
                    moveUpTo(v);
                    return true;
                }
                for (int p = 0; p < places; p++) {
                    if (at[p] == v) {
                        offer(p);
                    }
                }
            }
            return false;
        }

        private void offer(int place) {
            int fresh = open[place] & ~seen;
            for (int v = 0; v < CHOICES && queued < CHOICES; v++) {
                if ((fresh >> v & 1) != 0) {
                    mover[v] = place;
                    queue[queued] = v;
                    queued++;
                }
            }
            seen |= fresh;
        }

        private void moveUpTo(int last) {
            count[last]++;
            int v = last;
            for (int step = 0; step < CHOICES && v != NOWHERE; step++) {
                int place = mover[v];
                int before = at[place];
                at[place] = v;
                v = before;
            }
        }

        /** Finds which values one more on a value can reach, place after place moving on to another value. */
        private void link() {
            for (int node = 0; node < NODES; node++) {
                reach[node] = 1 << node;
            }
            for (int p = 0; p < places; p++) {
                reach[at[p]] |= open[p];
            }
            for (int v = 0; v < CHOICES; v++) {
                reach[v] |= count[v] < high[v] ? 1 << ROOM : 0;
                reach[ROOM] |= count[v] > low[v] ? 1 << v : 0;
            }
            for (int through = 0; through < NODES; through++) {
                for (int node = 0; node < NODES; node++) {
                    reach[node] |= (reach[node] >> through & 1) != 0 ? reach[through] : 0;
                }
            }
        }

        private void findHolders() {
            for (int v = 0; v < VALUES; v++) {
                holders[v] = 0;
                for (int p = 0; p < places; p++) {
                    holders[v] |= (open[p] >> v & 1) << p;
                }
            }
        }

        private void addWays(int group, int takers) {
            for (int p = 0; p < places; p++) {
                if ((takers >> p & 1) != 0) {
                    table[group] += table[group ^ 1 << p];
                }
            }
        }

        /** The first place of the group needs one of its values: how few more are enough with the best of them. */
        private long fewestBehind(int group) {
            int firstPlace = group & -group;
            long fewest = places;
            for (int v = 0; v < VALUES; v++) {
                if ((holders[v] & firstPlace) != 0) {
                    fewest = Math.min(fewest, table[group & ~holders[v]]);
                }
            }
            return fewest;
        }
    }

    /** Gives each of some places a value open to it, no two one value, for the least sum of prices. */
    private static final class Cheapest {
        private static final int NOBODY = -1;
        /** Above all sums of prices, and low enough to be added to them. */
        private static final int TOO_FAR = 1 << 28;
        private static final int NODES = ROW_NAMES + 1;

        final int[] open = new int[ROW_NAMES];
        final int[] price = new int[ROW_NAMES * VALUES];
        private final int[] at = new int[ROW_NAMES];
        private final int[] owner = new int[VALUES];
        private final int[] mover = new int[VALUES];
        private final int[] dues = new int[VALUES];
        private final int[] way = new int[NODES * NODES];
        private int places;

        /** Then the caller says what is open to each place, and the prices. */
        void begin(int howMany) {
            places = howMany;
        }

        /** Looks for the cheapest: whether there is any. */
        boolean settle() {
            Arrays.fill(owner, NOBODY);
            for (int p = 0; p < places; p++) {
                findDues(p);
                int last = cheapestFree();
                if (last == NOBODY) {
                    return false;
                }
                moveUpTo(last, p);
            }
            return true;
        }

        /** After settle. */
        int sum() {
            int sum = 0;
            for (int p = 0; p < places; p++) {
                sum += price[p * VALUES + at[p]];
            }
            return sum;
        }

        /**
         * After settle: the cheapest ways of moving on, from place to place whose value is taken over.
         * The node behind the places stands for the free values.
         */
        void measure() {
            Arrays.fill(way, TOO_FAR);
            for (int p = 0; p < places; p++) {
                measureFrom(p);
                way[places * NODES + p] = 0;
            }
            for (int through = 0; through <= places; through++) {
                for (int from = 0; from <= places; from++) {
                    shorten(from, through);
                }
            }
        }

        /** After measure: the values that the place has for some sum of most at most. */
        int within(int place, int most) {
            int sum = sum();
            int values = 0;
            for (int v = 0; v < VALUES; v++) {
                if ((open[place] >> v & 1) != 0 && sum + more(place, v) <= most) {
                    values |= 1 << v;
                }
            }
            return values;
        }

        /** What it costs to bring each value to the newcomer, who stands behind those that have one. */
        private void findDues(int newcomer) {
            for (int v = 0; v < VALUES; v++) {
                boolean isOpen = (open[newcomer] >> v & 1) != 0;
                dues[v] = isOpen ? price[newcomer * VALUES + v] : TOO_FAR;
                mover[v] = newcomer;
            }
            boolean better = true;
            // The cheapest way moves each place once at most.
            for (int round = 0; round < newcomer && better; round++) {
                better = false;
                for (int p = 0; p < newcomer; p++) {
                    better |= passOn(p);
                }
            }
        }

        private boolean passOn(int place) {
            int due = dues[at[place]];
            if (due == TOO_FAR) {
                return false;
            }
            int given = due - price[place * VALUES + at[place]];
            boolean better = false;
            for (int v = 0; v < VALUES; v++) {
                int next = given + price[place * VALUES + v];
                if ((open[place] >> v & 1) != 0 && next < dues[v]) {
                    dues[v] = next;
                    mover[v] = place;
                    better = true;
                }
            }
            return better;
        }

        private int change(int place, int value) {
            return price[place * VALUES + value] - price[place * VALUES + at[place]];
        }

        private int cheapestFree() {
            int best = NOBODY;
            int least = TOO_FAR;
            for (int v = 0; v < VALUES; v++) {
                if (owner[v] == NOBODY && dues[v] < least) {
                    best = v;
                    least = dues[v];
                }
            }
            return best;
        }

        private void moveUpTo(int last, int newcomer) {
            int v = last;
            for (int step = 0; step <= newcomer; step++) {
                int place = mover[v];
                int before = at[place];
                at[place] = v;
                owner[v] = place;
                if (place == newcomer) {
                    return;
                }
                v = before;
            }
        }

        private int nodeOf(int value) {
            return owner[value] == NOBODY ? places : owner[value];
        }

        private void measureFrom(int place) {
            for (int v = 0; v < VALUES; v++) {
                if ((open[place] >> v & 1) != 0) {
                    int index = place * NODES + nodeOf(v);
                    way[index] = Math.min(way[index], change(place, v));
                }
            }
        }

        private void shorten(int from, int through) {
            int start = way[from * NODES + through];
            if (start == TOO_FAR) {
                return;
            }
            for (int to = 0; to <= places; to++) {
                int onward = way[through * NODES + to];
                if (onward != TOO_FAR && start + onward < way[from * NODES + to]) {
                    way[from * NODES + to] = start + onward;
                }
            }
        }

        /** By how much the least sum rises if the place has the value and the others make the best of it. */
        private int more(int place, int value) {
            int onward = way[nodeOf(value) * NODES + place];
            return onward == TOO_FAR ? TOO_FAR : change(place, value) + onward;
        }
    }

    /** The full plans, kept until something changes. */
    private static final class PlanList {
        /** A plan is one long, so many bits a name. */
        private static final int BITS = 4;
        private static final int FIRST_ROOM = 64;

        private long[] list = new long[FIRST_ROOM];
        private int size;
        private boolean complete;

        static long with(long plan, int name, int value) {
            return plan | (long) value << BITS * name;
        }

        void forget() {
            size = 0;
            complete = false;
        }

        void append(long plan) {
            if (size >= list.length) {
                list = Arrays.copyOf(list, 2 * list.length);
            }
            list[size] = plan;
            size++;
        }

        /** For a plan that is in the list. */
        int valueIn(int k, int name) {
            return (int) (list[k] >> BITS * name) & (1 << BITS) - 1;
        }
    }
}
