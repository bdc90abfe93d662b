import java.util.Arrays;
import java.util.Random;

/** Rows of the greatest sizes with wide domains: too many combinations to try, so tables tell what is due. */
public final class LargeRowsTest {
    private static final int ROUNDS = 150;
    private static final int NEVER = 1 << 28;
    private static int wrong = 0;
    private static int asked = 0;

    /** Whether there is a plan, by these domains of the names from 0. */
    private interface Rule {
        boolean hasPlan(int[] domains);
    }

    public static void main(String[] args) {
        for (int seed = 1; seed <= ROUNDS; seed++) {
            Random random = new Random(seed);
            different(random);
            counted(random);
            same(random);
            turned(random);
            kinds(random);
            dear(random);
        }
        System.out.println(wrong == 0 ? asked + " answers are as due" : wrong + " of " + asked + " answers are not as due");
        if (wrong != 0) {
            System.exit(1);
        }
    }

    private static void due(String what, long got, long want) {
        asked++;
        if (got != want) {
            wrong++;
            System.out.println(what + " answered " + got + ", due is " + want);
        }
    }

    private static int[] drawDomains(Random random, int names, int values) {
        int density = 20 + random.nextInt(70);
        int[] domains = new int[names];
        for (int n = 0; n < names; n++) {
            domains[n] = 1 << random.nextInt(values);
            // Some narrow ones beside wide ones leave values that are in no plan.
            int here = random.nextInt(3) == 0 ? 10 : density;
            for (int v = 0; v < values; v++) {
                domains[n] |= random.nextInt(100) < here ? 1 << v : 0;
            }
        }
        return domains;
    }

    private static DifferentValues withNames(int[] domains) {
        DifferentValues x = new DifferentValues();
        for (int d : domains) {
            x.name(d);
        }
        return x;
    }

    /** Row 0 of x against the rule, for all names and values; then the run against the values that were in it. */
    private static void dueIn(String what, DifferentValues x, int[] domains, Rule rule) {
        int gone = 0;
        int[] left = new int[domains.length];
        for (int n = 0; n < domains.length; n++) {
            for (int v = 0; v < 12; v++) {
                int[] one = domains.clone();
                one[n] &= 1 << v;
                boolean in = one[n] != 0 && rule.hasPlan(one);
                due(what + Arrays.toString(domains) + " in(0, " + n + ", " + v + ")", x.in(0, n, v), in ? 1 : 0);
                left[n] |= in ? 1 << v : 0;
            }
            gone += Integer.bitCount(domains[n]) - Integer.bitCount(left[n]);
        }
        boolean some = rule.hasPlan(domains);
        due(what + " told(4)", x.told(4), gone);
        due(what + " blocked()", x.blocked(), some ? -1 : 0);
        due(what + " run()", x.run(), some ? gone : -3);
        for (int n = 0; n < domains.length; n++) {
            due(what + " domain(" + n + ")", x.domain(n), some ? left[n] : domains[n]);
        }
    }

    private static void different(Random random) {
        int[] domains = drawDomains(random, 8, 6 + random.nextInt(7));
        DifferentValues x = withNames(domains);
        x.different(255);
        due("ways(0)", x.ways(0), ways(domains));
        due("great(0)", x.great(0), spareNames(domains));
        boolean some = ways(domains) > 0;
        for (int n = 0; n < 8; n++) {
            for (int v = 0; v < 12; v++) {
                boolean has = (domains[n] >> v & 1) != 0;
                long want = !has ? -2 : some ? leastTight(domains, n, v) : -3;
                due("different" + Arrays.toString(domains) + " reason(0, " + n + ", " + v + ")", x.reason(0, n, v), want);
            }
        }
        dueIn("different", x, domains, d -> ways(d) > 0);
    }

    /** For each set of values, in how many ways the names so far use it. */
    private static long ways(int[] domains) {
        long[] table = new long[4096];
        table[0] = 1;
        for (int d : domains) {
            long[] next = new long[4096];
            for (int used = 0; used < 4096; used++) {
                for (int v = 0; v < 12 && table[used] > 0; v++) {
                    if ((d & ~used & 1 << v) != 0) {
                        next[used | 1 << v] += table[used];
                    }
                }
            }
            table = next;
        }
        return Arrays.stream(table).sum();
    }

    /** 0 if there is none: then the value is in the row, as Hall's theorem says. */
    private static int leastTight(int[] domains, int without, int value) {
        int best = 0;
        for (int set = 1; set < 256; set++) {
            int union = together(domains, set);
            boolean tight = Integer.bitCount(union) == Integer.bitCount(set);
            boolean fits = tight && (set >> without & 1) == 0 && (union >> value & 1) != 0;
            best = fits && (best == 0 || Integer.bitCount(set) < Integer.bitCount(best)) ? set : best;
        }
        return best;
    }

    private static int together(int[] domains, int set) {
        int union = 0;
        for (int n = 0; n < 8; n++) {
            union |= (set >> n & 1) != 0 ? domains[n] : 0;
        }
        return union;
    }

    private static int spareNames(int[] domains) {
        int spare = 0;
        for (int n = 0; n < 8; n++) {
            spare |= mostServed(domains, 255 & ~(1 << n)) == mostServed(domains, 255) ? 1 << n : 0;
        }
        return spare;
    }

    /** By Ore's formula: all but as many as some set has names above its values. */
    private static int mostServed(int[] domains, int names) {
        int lacking = 0;
        for (int set = names; set > 0; set = set - 1 & names) {
            lacking = Math.max(lacking, Integer.bitCount(set) - Integer.bitCount(together(domains, set)));
        }
        return Integer.bitCount(names) - lacking;
    }

    private static void counted(Random random) {
        int[] domains = drawDomains(random, 8, 12);
        DifferentValues x = withNames(domains);
        x.counted(255);
        int[] low = new int[12];
        int[] high = new int[12];
        for (int v = 0; v < 12; v++) {
            low[v] = random.nextInt(8) / 6;
            high[v] = low[v] + random.nextInt(3);
            x.limits(0, v, low[v], high[v]);
        }
        dueIn("counted " + Arrays.toString(low) + Arrays.toString(high) + " ", x, domains, d -> canBeCounted(d, low, high));
    }

    /** For each set of names, whether the values so far can be had by just these. */
    private static boolean canBeCounted(int[] domains, int[] low, int[] high) {
        boolean[] table = new boolean[256];
        table[0] = true;
        for (int v = 0; v < 12; v++) {
            int holders = 0;
            for (int n = 0; n < 8; n++) {
                holders |= (domains[n] >> v & 1) << n;
            }
            boolean[] next = new boolean[256];
            for (int had = 0; had < 256; had++) {
                int rest = holders & ~had;
                for (int more = rest; table[had]; more = more - 1 & rest) {
                    int count = Integer.bitCount(more);
                    if (count >= low[v] && count <= high[v]) {
                        next[had | more] = true;
                    }
                    if (more == 0) {
                        break;
                    }
                }
            }
            table = next;
        }
        return table[255];
    }

    private static void same(Random random) {
        int[] domains = drawDomains(random, 10, 12);
        for (int n = 0; n < 10; n++) {
            domains[n] &= random.nextInt(3) == 0 ? 4095 : 1 << random.nextInt(12) | 1 << random.nextInt(12) | 1 << random.nextInt(12);
            domains[n] = domains[n] == 0 ? 1 : domains[n];
        }
        DifferentValues x = withNames(domains);
        x.same(0b0101010101, 0b1010101010);
        dueIn("same", x, domains, d -> canBeSame(d));
    }

    /** For each set of names, whether the values so far can be had by just these, as many of the even as of the odd. */
    private static boolean canBeSame(int[] domains) {
        boolean[] table = new boolean[1024];
        table[0] = true;
        for (int v = 0; v < 12; v++) {
            int holders = 0;
            for (int n = 0; n < 10; n++) {
                holders |= (domains[n] >> v & 1) << n;
            }
            boolean[] next = new boolean[1024];
            for (int had = 0; had < 1024; had++) {
                int rest = holders & ~had;
                for (int more = rest; table[had]; more = more - 1 & rest) {
                    if (Integer.bitCount(more & 0b0101010101) == Integer.bitCount(more & 0b1010101010)) {
                        next[had | more] = true;
                    }
                    if (more == 0) {
                        break;
                    }
                }
            }
            table = next;
        }
        return table[1023];
    }

    private static void turned(Random random) {
        int[] domains = drawDomains(random, 16, 12);
        for (int n = 0; n < 16; n++) {
            domains[n] |= random.nextInt(256);
        }
        DifferentValues x = withNames(domains);
        x.turned(0b1111000000001111, 0b0000111111110000);
        dueIn("turned", x, domains, d -> canBeTurned(d, 0, 0));
    }

    private static boolean canBeTurned(int[] domains, int i, int used) {
        if (i == 8) {
            return true;
        }
        int a = i < 4 ? i : i + 8;
        for (int j = 0; j < 8; j++) {
            boolean meets = (domains[a] >> j & domains[4 + j] >> i & 1) != 0;
            if (meets && (used >> j & 1) == 0 && canBeTurned(domains, i + 1, used | 1 << j)) {
                return true;
            }
        }
        return false;
    }

    private static void kinds(Random random) {
        int[] domains = drawDomains(random, 8, 12);
        DifferentValues x = withNames(domains);
        int low = random.nextInt(9);
        int high = Math.min(12, low + random.nextInt(3));
        x.kinds(255, low, high);
        int all = howManyKinds(domains);
        due("end(0, 0)", x.end(0, 0), Integer.numberOfTrailingZeros(all));
        due("end(0, 1)", x.end(0, 1), 31 - Integer.numberOfLeadingZeros(all));
        dueIn("kinds " + low + " " + high, x, domains, d -> (howManyKinds(d) >> low & (1 << high - low + 1) - 1) != 0);
    }

    /** The numbers of different values that there can be, as bits. */
    private static int howManyKinds(int[] domains) {
        boolean[] table = new boolean[4096];
        table[0] = true;
        for (int d : domains) {
            boolean[] next = new boolean[4096];
            for (int used = 0; used < 4096; used++) {
                for (int v = 0; v < 12 && table[used]; v++) {
                    next[used | 1 << v] |= (d >> v & 1) != 0;
                }
            }
            table = next;
        }
        int numbers = 0;
        for (int used = 0; used < 4096; used++) {
            numbers |= table[used] ? 1 << Integer.bitCount(used) : 0;
        }
        return numbers;
    }

    private static void dear(Random random) {
        int[] domains = drawDomains(random, 8, 12);
        int range = random.nextBoolean() ? 1000 : 3;
        int[][] costs = new int[8][12];
        int[][] gains = new int[8][12];
        for (int n = 0; n < 8; n++) {
            for (int v = 0; v < 12; v++) {
                costs[n][v] = random.nextInt(2 * range + 1) - range;
                gains[n][v] = -costs[n][v];
            }
        }
        int least = leastSum(domains, costs);
        int most = least == NEVER ? 1000000 : least + random.nextInt(2 * range) - 1;
        DifferentValues x = withNames(domains);
        x.dear(255, most);
        for (int n = 0; n < 8; n++) {
            for (int v = 0; v < 12; v++) {
                x.cost(0, n, v, costs[n][v]);
            }
        }
        if (least != NEVER) {
            due("end(0, 0)", x.end(0, 0), least);
            due("end(0, 1)", x.end(0, 1), -leastSum(domains, gains));
        }
        dueIn("dear", x, domains, d -> leastSum(d, costs) <= most);
    }

    private static int leastSum(int[] domains, int[][] costs) {
        int[] table = new int[4096];
        Arrays.fill(table, NEVER);
        table[0] = 0;
        for (int n = 0; n < 8; n++) {
            int[] next = new int[4096];
            Arrays.fill(next, NEVER);
            for (int used = 0; used < 4096; used++) {
                for (int v = 0; v < 12 && table[used] != NEVER; v++) {
                    if ((domains[n] & ~used & 1 << v) != 0) {
                        next[used | 1 << v] = Math.min(next[used | 1 << v], table[used] + costs[n][v]);
                    }
                }
            }
            table = next;
        }
        return Arrays.stream(table).min().getAsInt();
    }
}
