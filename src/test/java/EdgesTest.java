import java.util.ArrayList;
import java.util.Arrays;
import java.util.List;
import java.util.Random;

/**
 * Sentence by sentence through the document: what it says at the edges of what is taken, worked out by hand.
 * What is refused beyond them stands in RefusalsTest.
 */
public final class EdgesTest {
    private static String sentence = "";
    private static int sentences = 0;
    private static int asked = 0;
    private static int wrong = 0;

    public static void main(String[] args) {
        termsOfNames();
        termsOfDifferent();
        termsOfCounted();
        termsOfSame();
        termsOfTurned();
        termsOfKinds();
        termsOfDear();
        termsOfRest();
        termsOfPlans();
        termsOfTightSets();
        objects();
        makingRows();
        limitsAndCosts();
        domains();
        run();
        inAndBlocked();
        reason();
        great();
        ways();
        end();
        sure();
        marks();
        plans();
        plan();
        told();
        changesAreSeenByPlans();
        lastCall();
        System.out.println(wrong == 0
            ? asked + " answers of " + sentences + " sentences are as due"
            : wrong + " of " + asked + " answers are not as due");
        if (wrong != 0) {
            System.exit(1);
        }
    }

    private static void test(String what, Runnable body) {
        sentence = what;
        sentences++;
        body.run();
    }

    private static void due(String call, long got, long want) {
        asked++;
        if (got != want) {
            wrong++;
            System.out.println(sentence + ": " + call + " answered " + got + ", due is " + want);
        }
    }

    private static DifferentValues withNames(int... domains) {
        DifferentValues x = new DifferentValues();
        for (int i = 0; i < domains.length; i++) {
            due("name(" + domains[i] + ")", x.name(domains[i]), i);
        }
        return x;
    }

    private static DifferentValues alike(int names, int domain) {
        int[] domains = new int[names];
        Arrays.fill(domains, domain);
        return withNames(domains);
    }

    private static void dueDomains(DifferentValues x, int... want) {
        for (int n = 0; n < want.length; n++) {
            due("domain(" + n + ")", x.domain(n), want[n]);
        }
    }

    /** The values that are in the row for the name, as bits. */
    private static void dueIn(DifferentValues x, int row, int name, int want) {
        int in = 0;
        for (int v = 0; v < 12; v++) {
            in |= x.in(row, name, v) << v;
        }
        due("in(" + row + ", " + name + ", ..)", in, want);
    }

    private static void duePlan(DifferentValues x, int k, int... want) {
        for (int n = 0; n < want.length; n++) {
            due("plan(" + k + ", " + n + ")", x.plan(k, n), want[n]);
        }
    }

    // Terms.

    private static void termsOfNames() {
        test("NAMES have numbers from 0, 16 at most", () -> {
            DifferentValues x = alike(16, 1);
            due("a 17th", x.name(1), -4);
            due("told(0)", x.told(0), 16);
            due("domain(15)", x.domain(15), 1);
            due("domain(16)", x.domain(16), -1);
        });
        test("A DOMAIN: some of the VALUES 0 .. 11, VALUE v is bit v", () -> {
            DifferentValues x = withNames(1, 2048, 4095);
            x.counted(7);
            dueIn(x, 0, 0, 1);
            dueIn(x, 0, 1, 2048);
            dueIn(x, 0, 2, 4095);
            due("plan(0, 1)", x.plan(0, 1), 11);
        });
        test("SETS of NAMES are told as bits by their numbers", () -> {
            DifferentValues x = alike(16, 3);
            x.different(1 << 15 | 1);
            due("in(0, 0, 0)", x.in(0, 0, 0), 1);
            due("in(0, 15, 0)", x.in(0, 15, 0), 1);
            for (int n = 1; n < 15; n++) {
                due("in(0, " + n + ", 0)", x.in(0, n, 0), -1);
            }
            x.keep(15, 1);
            dueIn(x, 0, 0, 2);
        });
        test("ROWS have numbers from 0, 12 at most", () -> {
            DifferentValues x = alike(2, 3);
            for (int r = 0; r < 12; r++) {
                due("row " + r, oneOfAllSorts(x, r % 6), r);
            }
            for (int sort = 0; sort < 6; sort++) {
                due("a 13th of sort " + sort, oneOfAllSorts(x, sort), -4);
            }
            due("told(1)", x.told(1), 12);
            due("sure(11)", x.sure(11), 0);
            due("sure(12)", x.sure(12), -1);
        });
    }

    private static int oneOfAllSorts(DifferentValues x, int sort) {
        switch (sort) {
            case 0: return x.different(3);
            case 1: return x.counted(3);
            case 2: return x.same(1, 2);
            case 3: return x.turned(1, 2);
            case 4: return x.kinds(3, 1, 1);
            default: return x.dear(3, 0);
        }
    }

    private static void termsOfDifferent() {
        test("DIFFERENT: no two have one VALUE, of one NAME", () -> {
            DifferentValues x = withNames(2049);
            x.different(1);
            dueIn(x, 0, 0, 2049);
            due("sure(0)", x.sure(0), 1);
            due("plans()", x.plans(), 2);
        });
        test("DIFFERENT: no two have one VALUE, of as many VALUES as NAMES", () -> {
            DifferentValues x = alike(8, 255);
            x.different(255);
            dueIn(x, 0, 7, 255);
            due("ways(0)", x.ways(0), 40320);
            due("blocked()", x.blocked(), -1);
        });
        test("DIFFERENT: no two have one VALUE, of one VALUE too few", () -> {
            DifferentValues x = alike(8, 127);
            x.different(255);
            dueIn(x, 0, 0, 0);
            due("blocked()", x.blocked(), 0);
            due("great(0)", x.great(0), 255);
        });
        test("DIFFERENT: NAMES that are not of the ROW may have one VALUE", () -> {
            DifferentValues x = withNames(1, 1, 2);
            x.different(0b101);
            due("blocked()", x.blocked(), -1);
            due("plans()", x.plans(), 1);
        });
    }

    private static void termsOfCounted() {
        test("COUNTED: 0 and 8 at first", () -> {
            DifferentValues x = alike(8, 4095);
            x.counted(255);
            for (int v = 0; v < 12; v++) {
                due("limits(0, " + v + ", 0, 8)", x.limits(0, v, 0, 8), 8);
            }
            due("sure(0)", x.sure(0), 1);
        });
        test("COUNTED: at most its HIGH have it, 8 of 8 and 7 of 8", () -> {
            DifferentValues x = alike(8, 1);
            x.counted(255);
            due("sure(0)", x.sure(0), 1);
            due("limits(0, 0, 0, 7)", x.limits(0, 0, 0, 7), 8);
            due("blocked()", x.blocked(), 0);
            due("sure(0)", x.sure(0), 0);
        });
        test("COUNTED: at least its LOW have it, 8 of 8", () -> {
            DifferentValues x = alike(8, 2049);
            x.counted(255);
            due("limits(0, 11, 8, 8)", x.limits(0, 11, 8, 8), 8);
            dueIn(x, 0, 0, 2048);
            due("plans()", x.plans(), 1);
            due("run()", x.run(), 8);
            due("sure(0)", x.sure(0), 1);
        });
        test("COUNTED: at least its LOW have it, one more than there are NAMES", () -> {
            DifferentValues x = alike(7, 3);
            x.counted(127);
            due("limits(0, 0, 7, 8)", x.limits(0, 0, 7, 8), 8);
            due("blocked()", x.blocked(), -1);
            due("limits(0, 0, 8, 8)", x.limits(0, 0, 8, 8), 16 * 7 + 8);
            due("blocked()", x.blocked(), 0);
        });
        test("COUNTED: a HIGH of 0", () -> {
            DifferentValues x = withNames(3, 3);
            x.counted(3);
            x.limits(0, 1, 0, 0);
            dueIn(x, 0, 0, 1);
            due("plans()", x.plans(), 1);
        });
        test("COUNTED: a LOW of a VALUE that is in one DOMAIN alone", () -> {
            DifferentValues x = withNames(3, 3, 7);
            x.counted(7);
            x.limits(0, 2, 1, 8);
            dueIn(x, 0, 0, 3);
            dueIn(x, 0, 2, 4);
        });
        test("COUNTED: the LOWS together are as many as the NAMES, and one more", () -> {
            DifferentValues x = alike(3, 15);
            x.counted(7);
            x.limits(0, 0, 1, 8);
            x.limits(0, 1, 2, 8);
            dueIn(x, 0, 0, 3);
            due("plans()", x.plans(), 3);
            x.limits(0, 2, 1, 8);
            due("blocked()", x.blocked(), 0);
        });
        test("COUNTED: the HIGHS together are as many as the NAMES, and one fewer", () -> {
            DifferentValues x = alike(3, 3);
            x.counted(7);
            x.limits(0, 0, 0, 1);
            x.limits(0, 1, 0, 2);
            due("plans()", x.plans(), 3);
            x.limits(0, 1, 0, 1);
            due("blocked()", x.blocked(), 0);
        });
    }

    private static void termsOfSame() {
        test("SAME: of each VALUE, as many of a have it as of b, of one NAME each", () -> {
            DifferentValues x = withNames(7, 2054);
            x.same(1, 2);
            dueIn(x, 0, 0, 6);
            dueIn(x, 0, 1, 6);
            due("plans()", x.plans(), 2);
            duePlan(x, 0, 1, 1);
            duePlan(x, 1, 2, 2);
        });
        test("SAME: of each VALUE, as many of a have it as of b, of five NAMES each", () -> {
            DifferentValues x = withNames(1, 2, 4, 8, 48, 48, 8, 4, 3, 3);
            x.same(0b11111, 0b1111100000);
            due("blocked()", x.blocked(), -1);
            due("told(4)", x.told(4), 0);
            due("plans()", x.plans(), 4);
            x.keep(8, 1);
            dueIn(x, 0, 9, 2);
        });
        test("SAME: a VALUE twice here and once there", () -> {
            DifferentValues x = withNames(1, 1, 1, 2);
            x.same(0b0011, 0b1100);
            due("blocked()", x.blocked(), 0);
            DifferentValues y = withNames(1, 1, 1, 3);
            y.same(0b0011, 0b1100);
            dueIn(y, 0, 3, 1);
        });
        test("SAME: SETS whose NAMES stand among one another", () -> {
            DifferentValues x = withNames(3, 6, 12, 24);
            x.same(0b0101, 0b1010);
            // Names 0 and 2 against 1 and 3: 0 has 1 as name 1 has, 2 has 3 as name 3 has.
            dueIn(x, 0, 0, 2);
            dueIn(x, 0, 1, 2);
            dueIn(x, 0, 2, 8);
            dueIn(x, 0, 3, 8);
        });
    }

    private static void termsOfTurned() {
        test("TURNED: all VALUES are below n, of one NAME each", () -> {
            DifferentValues x = withNames(4095, 4095);
            x.turned(1, 2);
            dueIn(x, 0, 0, 1);
            dueIn(x, 0, 1, 1);
            due("run()", x.run(), 22);
            due("sure(0)", x.sure(0), 1);
        });
        test("TURNED: all VALUES are below n, of eight NAMES each", () -> {
            DifferentValues x = alike(16, 4095);
            x.turned(0xff, 0xff00);
            dueIn(x, 0, 0, 255);
            dueIn(x, 0, 15, 255);
            due("told(4)", x.told(4), 64);
        });
        test("TURNED: NAME i of a has j just when NAME j of b has i", () -> {
            DifferentValues x = alike(6, 7);
            x.turned(0b000111, 0b111000);
            x.keep(0, 2);
            x.keep(1, 4);
            due("run()", x.run(), 8);
            dueDomains(x, 2, 4, 1, 4, 1, 2);
        });
        test("TURNED: the NAMES of each SET are numbered from 0 by rising numbers", () -> {
            DifferentValues x = alike(7, 7);
            // a is 1, 4, 6 and b is 0, 2, 5.
            x.turned(0b1010010, 0b0100101);
            x.keep(1, 4);
            dueIn(x, 0, 5, 1);
            dueIn(x, 0, 0, 6);
            x.keep(4, 1);
            dueIn(x, 0, 0, 2);
            dueIn(x, 0, 6, 2);
            dueIn(x, 0, 2, 4);
        });
        test("TURNED: a is not b", () -> {
            DifferentValues x = alike(6, 7);
            x.turned(0b111000, 0b000111);
            x.keep(3, 2);
            x.keep(4, 4);
            due("run()", x.run(), 8);
            dueDomains(x, 4, 1, 2, 2, 4, 1);
        });
    }

    private static void termsOfKinds() {
        test("KINDS: from LOW, as many as there can be and one more", () -> {
            DifferentValues x = withNames(3, 3, 3);
            x.kinds(7, 2, 12);
            x.kinds(7, 3, 12);
            due("blocked()", x.blocked(), 1);
            dueIn(x, 0, 0, 3);
            dueIn(x, 1, 0, 0);
        });
        test("KINDS: to HIGH, as few as there can be and one fewer", () -> {
            DifferentValues x = withNames(1, 2, 7);
            x.kinds(7, 0, 2);
            x.kinds(7, 0, 1);
            due("blocked()", x.blocked(), 1);
            dueIn(x, 0, 2, 3);
            dueIn(x, 1, 2, 0);
        });
        test("KINDS: a HIGH of 0 has no PLAN", () -> {
            DifferentValues x = withNames(1);
            x.kinds(1, 0, 0);
            due("blocked()", x.blocked(), 0);
            due("plans()", x.plans(), 0);
        });
        test("KINDS: a LOW of one more than the NAMES has no PLAN", () -> {
            DifferentValues x = alike(8, 4095);
            x.kinds(255, 8, 12);
            x.kinds(255, 9, 12);
            due("blocked()", x.blocked(), 1);
            due("told(4)", x.told(4), 96);
        });
        test("KINDS: LOW and HIGH are one number", () -> {
            DifferentValues x = withNames(7, 7, 7);
            x.kinds(7, 1, 1);
            due("plans()", x.plans(), 3);
            x.clear();
            x.name(7);
            x.name(7);
            x.name(7);
            x.kinds(7, 2, 2);
            due("plans()", x.plans(), 18);
            x.clear();
            x.name(7);
            x.name(7);
            x.name(7);
            x.kinds(7, 3, 3);
            due("plans()", x.plans(), 6);
        });
        test("KINDS: a VALUE that keeps LOW from being reached", () -> {
            DifferentValues x = withNames(1, 3, 6);
            x.kinds(7, 3, 3);
            dueIn(x, 0, 1, 2);
            dueIn(x, 0, 2, 4);
        });
        test("KINDS: a VALUE that goes beyond HIGH", () -> {
            DifferentValues x = withNames(3, 5, 9, 17);
            x.kinds(15, 1, 1);
            dueIn(x, 0, 0, 1);
            dueIn(x, 0, 3, 1);
        });
    }

    private static void termsOfDear() {
        test("DEAR: the sum of their COSTS is MOST at most, just MOST and one more", () -> {
            DifferentValues x = withNames(3, 12);
            x.dear(3, 10);
            x.cost(0, 0, 0, 4);
            x.cost(0, 0, 1, 5);
            x.cost(0, 1, 2, 6);
            x.cost(0, 1, 3, 5);
            dueIn(x, 0, 0, 3);
            dueIn(x, 0, 1, 12);
            due("plans()", x.plans(), 3);
            x.keep(1, 4);
            dueIn(x, 0, 0, 1);
        });
        test("DEAR: 0 at first", () -> {
            DifferentValues x = alike(8, 4095);
            x.dear(255, 0);
            x.dear(255, -1);
            due("in(0, 0, 11)", x.in(0, 0, 11), 1);
            due("blocked()", x.blocked(), 1);
            for (int v = 0; v < 12; v++) {
                due("cost(0, 7, " + v + ", 0)", x.cost(0, 7, v, 0), 1000);
            }
        });
        test("DEAR: no two have one VALUE, whatever MOST is", () -> {
            DifferentValues x = withNames(1, 3, 3);
            x.dear(0b011, 1000000);
            dueIn(x, 0, 1, 2);
            x.dear(0b111, 1000000);
            due("blocked()", x.blocked(), 1);
        });
        test("DEAR: the greatest and the least COSTS of eight NAMES", () -> {
            DifferentValues x = alike(8, 255);
            x.dear(255, 8000);
            x.dear(255, 7999);
            x.dear(255, -8000);
            x.dear(255, -8001);
            for (int n = 0; n < 8; n++) {
                for (int v = 0; v < 8; v++) {
                    x.cost(0, n, v, 1000);
                    x.cost(1, n, v, 1000);
                    x.cost(2, n, v, -1000);
                    x.cost(3, n, v, -1000);
                }
            }
            due("in(0, 7, 7)", x.in(0, 7, 7), 1);
            due("in(1, 7, 7)", x.in(1, 7, 7), 0);
            due("in(2, 7, 7)", x.in(2, 7, 7), 1);
            due("in(3, 7, 7)", x.in(3, 7, 7), 0);
            due("end(0, 1)", x.end(0, 1), 8000);
            due("end(3, 0)", x.end(3, 0), -8000);
            due("blocked()", x.blocked(), 1);
        });
        test("DEAR: one NAME", () -> {
            DifferentValues x = withNames(2049);
            x.dear(1, -1);
            x.cost(0, 0, 11, -1);
            dueIn(x, 0, 0, 2048);
            due("plans()", x.plans(), 1);
        });
        test("DEAR: all must change at once, each to the VALUE of the next or of the one before", () -> {
            for (int names = 2; names <= 8; names++) {
                dearRing(names, 1);
                dearRing(names, names - 1);
            }
        });
        test("DEAR: one after the other must change, up to a VALUE that is free", () -> {
            for (int names = 1; names <= 8; names++) {
                dearChain(names, false);
                dearChain(names, true);
            }
        });
        test("DEAR: COSTS of VALUES that are not in the DOMAIN do not count", () -> {
            DifferentValues x = withNames(6);
            x.dear(1, 0);
            x.cost(0, 0, 0, -1000);
            x.cost(0, 0, 3, 1000);
            x.cost(0, 0, 1, 1);
            dueIn(x, 0, 0, 4);
            due("end(0, 0)", x.end(0, 0), 0);
            due("end(0, 1)", x.end(0, 1), 1);
        });
    }

    /** Name i can have i for nothing or, for 1, the value of the name so many steps on: all must, or none. */
    private static void dearRing(int names, int step) {
        int[] domains = new int[names];
        for (int i = 0; i < names; i++) {
            domains[i] = 1 << i | 1 << (i + step) % names;
        }
        DifferentValues x = withNames(domains);
        int all = (1 << names) - 1;
        x.dear(all, names);
        x.dear(all, names - 1);
        for (int i = 0; i < names; i++) {
            x.cost(0, i, (i + step) % names, 1);
            x.cost(1, i, (i + step) % names, 1);
        }
        for (int i = 0; i < names; i++) {
            dueIn(x, 0, i, domains[i]);
            dueIn(x, 1, i, 1 << i);
        }
        due("end(0, 0)", x.end(0, 0), 0);
        due("end(0, 1)", x.end(0, 1), names);
    }

    /** Name i can have i for nothing or i + 1 for 1, which those behind it must do then too; or the other way round. */
    private static void dearChain(int names, boolean falling) {
        int[] domains = new int[names];
        for (int i = 0; i < names; i++) {
            domains[i] = 3 << (falling ? names - 1 - i : i);
        }
        DifferentValues x = withNames(domains);
        int all = (1 << names) - 1;
        x.dear(all, names);
        x.dear(all, names - 1);
        for (int i = 0; i < names; i++) {
            int higher = falling ? names - i : i + 1;
            x.cost(0, i, higher, 1);
            x.cost(1, i, higher, 1);
        }
        for (int i = 0; i < names; i++) {
            int place = falling ? names - 1 - i : i;
            dueIn(x, 0, i, domains[i]);
            dueIn(x, 1, i, place == 0 ? 1 : domains[i]);
        }
        due("end(1, 0)", x.end(1, 0), 0);
        due("end(1, 1)", x.end(1, 1), names);
    }

    private static void termsOfRest() {
        test("IN: so it is in its DOMAIN", () -> {
            DifferentValues x = withNames(5);
            x.different(1);
            dueIn(x, 0, 0, 5);
            x.keep(0, 4);
            dueIn(x, 0, 0, 4);
        });
        test("REST: in any order of the ROWS the same are left", () -> {
            int[] order = {0, 1, 2, 3, 4};
            permute(order, 0);
        });
        test("REST: a ROW looks again when another ROW takes a VALUE from one of its NAMES, whichever", () -> {
            for (int pivot = 0; pivot < 16; pivot++) {
                DifferentValues x = alike(16, 7);
                int next = (pivot + 1) % 16;
                int fixed = (pivot + 2) % 16;
                x.keep(pivot, 3);
                x.keep(next, 6);
                x.keep(fixed, 1);
                x.different(1 << pivot | 1 << next);
                x.different(1 << pivot | 1 << fixed);
                due("run() over " + pivot, x.run(), 2);
                due("domain(pivot)", x.domain(pivot), 2);
                due("domain(next)", x.domain(next), 4);
            }
        });
        test("REST: a ROW looks again when all NAMES of all ROWS lost VALUES", () -> {
            DifferentValues x = withNames(7, 14, 6);
            x.same(0b001, 0b010);
            x.counted(0b101);
            x.limits(1, 1, 0, 0);
            due("run()", x.run(), 2 + 2 + 1);
            dueDomains(x, 4, 4, 4);
        });
        test("REST: a ROW of one NAME, whichever", () -> {
            for (int n = 0; n < 16; n++) {
                DifferentValues x = alike(16, 3);
                x.counted(1 << n);
                x.limits(0, 0, 0, 0);
                due("blocked()", x.blocked(), -1);
                due("run() over " + n, x.run(), 1);
                due("domain(" + n + ")", x.domain(n), 2);
                due("told(3)", x.told(3), 31);
                x.dear(1 << n, -1);
                due("blocked()", x.blocked(), 1);
                due("run() over " + n, x.run(), -3);
            }
        });
        test("REST: in any order of the VALUES the same are left", () -> {
            for (int seed = 1; seed <= 40; seed++) {
                takeAwayOneByOne(new Random(seed));
            }
        });
        test("BLOCKED, if a DOMAIN gets empty so", () -> {
            DifferentValues x = withNames(1, 3, 2);
            x.different(0b011);
            x.same(0b010, 0b100);
            due("run()", x.run(), 1);
            dueDomains(x, 1, 2, 2);
            DifferentValues y = withNames(1, 3, 1);
            y.different(0b011);
            y.same(0b010, 0b100);
            due("blocked()", y.blocked(), -1);
            due("run()", y.run(), -3);
            dueDomains(y, 1, 3, 1);
        });
    }

    private static DifferentValues fiveRows(int[] order) {
        DifferentValues x = withNames(1, 3, 6, 12, 14, 30);
        for (int which : order) {
            switch (which) {
                case 0: x.different(0b000011); break;
                case 1: x.different(0b000110); break;
                case 2: x.different(0b001100); break;
                case 3: x.same(0b001000, 0b010000); break;
                default: x.different(0b110000); break;
            }
        }
        return x;
    }

    private static void permute(int[] order, int from) {
        if (from == order.length) {
            DifferentValues x = fiveRows(order);
            due("run() of " + Arrays.toString(order), x.run(), 1 + 1 + 1 + 2 + 1);
            dueDomains(x, 1, 2, 4, 8, 8, 22);
            return;
        }
        for (int i = from; i < order.length; i++) {
            swap(order, from, i);
            permute(order, from + 1);
            swap(order, from, i);
        }
    }

    private static void swap(int[] order, int i, int j) {
        int kept = order[i];
        order[i] = order[j];
        order[j] = kept;
    }

    private static void takeAwayOneByOne(Random random) {
        DifferentValues x = fiveRows(new int[] {0, 1, 2, 3, 4});
        for (int gone = 0; x.told(4) > 0; gone++) {
            List<int[]> outside = new ArrayList<>();
            for (int r = 0; r < 5; r++) {
                int names = r < 3 ? 3 << r : r == 3 ? 0b011000 : 0b110000;
                for (int n = 0; n < 6; n++) {
                    int open = (names >> n & 1) != 0 ? x.domain(n) : 0;
                    for (int v = 0; v < 5; v++) {
                        if ((open >> v & 1) != 0 && x.in(r, n, v) == 0) {
                            outside.add(new int[] {n, v});
                        }
                    }
                }
            }
            if (outside.isEmpty() || gone > 18) {
                due("values that are not in", 0, x.told(4));
                return;
            }
            int[] one = outside.get(random.nextInt(outside.size()));
            due("keep", x.keep(one[0], 4095 ^ 1 << one[1]), 1);
        }
        dueDomains(x, 1, 2, 4, 8, 8, 22);
        due("run() behind it", x.run(), 0);
    }

    private static void termsOfPlans() {
        test("A FULL PLAN gives each NAME a VALUE of its DOMAIN, NAMES of no ROW too", () -> {
            DifferentValues x = withNames(3, 3, 7);
            x.different(3);
            due("plans()", x.plans(), 6);
        });
        test("A FULL PLAN gives a PLAN of each ROW", () -> {
            DifferentValues x = withNames(3, 3, 3);
            x.different(0b011);
            due("plans()", x.plans(), 4);
            x.different(0b110);
            due("plans()", x.plans(), 2);
            x.different(0b101);
            due("plans()", x.plans(), 0);
            due("blocked()", x.blocked(), -1);
        });
        test("A FULL PLAN gives a PLAN of each ROW, of one NAME too, whichever", () -> {
            for (int n = 0; n < 8; n++) {
                DifferentValues x = alike(8, 3);
                x.counted(1 << n);
                x.limits(0, 0, 0, 0);
                due("plans() with a row over " + n, x.plans(), 128);
                due("plan(0, " + n + ")", x.plan(0, n), 1);
                due("plan(127, " + n + ")", x.plan(127, n), 1);
            }
        });
        test("That one comes first which has the lesser VALUE for the first NAME for which they differ", () -> {
            DifferentValues x = withNames(2049, 3, 1025);
            int[][] want = {{0, 0, 0}, {0, 0, 10}, {0, 1, 0}, {0, 1, 10}, {11, 0, 0}, {11, 0, 10}, {11, 1, 0}, {11, 1, 10}};
            for (int k = 0; k < 8; k++) {
                duePlan(x, k, want[k]);
            }
        });
    }

    private static void termsOfTightSets() {
        test("TIGHT, if their DOMAINS together have just as many VALUES as it has NAMES", () -> {
            DifferentValues x = withNames(3, 6, 5, 15);
            x.different(15);
            for (int v = 0; v < 3; v++) {
                due("reason(0, 3, " + v + ")", x.reason(0, 3, v), 7);
            }
            due("reason(0, 3, 3)", x.reason(0, 3, 3), 0);
        });
        test("TIGHT, of some of its NAMES: of one", () -> {
            DifferentValues x = withNames(4, 12);
            x.different(3);
            due("reason(0, 1, 2)", x.reason(0, 1, 2), 1);
        });
        test("TIGHT, of some of its NAMES: of all but one", () -> {
            DifferentValues x = withNames(255, 127, 127, 127, 127, 127, 127, 127);
            x.different(255);
            due("reason(0, 0, 0)", x.reason(0, 0, 0), 254);
            due("reason(0, 0, 6)", x.reason(0, 0, 6), 254);
            due("reason(0, 0, 7)", x.reason(0, 0, 7), 0);
        });
    }

    // Promises.

    private static void objects() {
        test("Promise 1: no NAMES, no ROWS, no MARKS", () -> {
            DifferentValues x = new DifferentValues();
            for (int what = 0; what <= 4; what++) {
                due("told(" + what + ")", x.told(what), 0);
            }
            due("mark()", x.mark(), 1);
            due("back(1)", x.back(1), 0);
            due("name(1)", x.name(1), 0);
            due("different(1)", x.different(1), 0);
        });
        test("Promise 1: one object has nothing of another", () -> {
            DifferentValues x = withNames(3, 3);
            x.different(3);
            DifferentValues y = withNames(1, 1, 1);
            y.different(3);
            y.mark();
            due("ways(0)", x.ways(0), 2);
            due("told(2)", x.told(2), 0);
            due("blocked()", x.blocked(), -1);
            due("blocked()", y.blocked(), 0);
        });
        test("Promise 2: all NAMES, ROWS, MARKS go, of a full object", () -> {
            DifferentValues x = alike(16, 4095);
            for (int r = 0; r < 12; r++) {
                oneOfAllSorts(x, r % 6);
            }
            for (int m = 0; m < 20; m++) {
                x.mark();
            }
            x.clear();
            for (int what = 0; what <= 4; what++) {
                due("told(" + what + ")", x.told(what), 0);
            }
            due("plans()", x.plans(), 1);
            due("run()", x.run(), 0);
            due("blocked()", x.blocked(), -1);
            due("back(1)", x.back(1), -1);
            due("domain(0)", x.domain(0), -1);
            due("sure(0)", x.sure(0), -1);
            for (int n = 0; n < 16; n++) {
                due("name", x.name(1 << n % 12), n);
            }
            for (int r = 0; r < 12; r++) {
                due("row", oneOfAllSorts(x, r % 6), r);
            }
            for (int m = 1; m <= 20; m++) {
                due("mark()", x.mark(), m);
            }
        });
        test("Promise 2: nothing of the ROWS before is left", () -> {
            DifferentValues x = withNames(3, 3);
            x.counted(3);
            x.limits(0, 0, 2, 2);
            x.dear(3, 0);
            x.cost(1, 1, 1, 1000);
            x.clear();
            x.name(3);
            x.name(3);
            x.counted(3);
            x.dear(3, 0);
            due("limits", x.limits(0, 0, 0, 8), 8);
            due("cost", x.cost(1, 1, 1, 0), 1000);
            due("plans()", x.plans(), 2);
        });
        test("Promise 2: an object that is clear can be cleared", () -> {
            DifferentValues x = new DifferentValues();
            x.clear();
            x.clear();
            due("told(0)", x.told(0), 0);
            due("name(7)", x.name(7), 0);
        });
    }

    private static void makingRows() {
        test("Promise 3: a DOMAIN (bits, 1 .. 4095)", () -> {
            DifferentValues x = withNames(1, 4095, 2048);
            dueDomains(x, 1, 4095, 2048);
        });
        test("Promise 3: NAMES after ROWS and after MARKS that went", () -> {
            DifferentValues x = withNames(1);
            x.different(1);
            x.mark();
            due("name(2)", x.name(2), -3);
            x.back(1);
            due("name(2)", x.name(2), 1);
            due("different(3)", x.different(3), 1);
        });
        test("Promises 4, 5, 9, 10: 1 to 8 NAMES", () -> {
            DifferentValues x = alike(16, 4095);
            due("different(1)", x.different(1), 0);
            due("different(0xff00)", x.different(0xff00), 1);
            due("counted(0x8000)", x.counted(0x8000), 2);
            due("counted(0x5555)", x.counted(0x5555), 3);
            due("kinds(0x8000, 0, 1)", x.kinds(0x8000, 0, 1), 4);
            due("kinds(0xaaaa, 0, 1)", x.kinds(0xaaaa, 0, 1), 5);
            due("dear(0x8000, 0)", x.dear(0x8000, 0), 6);
            due("dear(0xf00f, 0)", x.dear(0xf00f, 0), 7);
            due("ways(1)", x.ways(1), 19958400);
            due("end(5, 0)", x.end(5, 0), 1);
            due("end(5, 1)", x.end(5, 1), 8);
        });
        test("Promise 7: 1 to 5 NAMES in each", () -> {
            DifferentValues x = alike(16, 3);
            due("same(1, 0x8000)", x.same(1, 0x8000), 0);
            due("same(0x8000, 1)", x.same(0x8000, 1), 1);
            due("same(0xf800, 0x1f)", x.same(0xf800, 0x1f), 2);
            due("same(0x0155, 0x02aa)", x.same(0x0155, 0x02aa), 3);
        });
        test("Promise 8: 1 to 8 NAMES in each", () -> {
            DifferentValues x = alike(16, 255);
            due("turned(1, 0x8000)", x.turned(1, 0x8000), 0);
            due("turned(0x3f, 0xfc0)", x.turned(0x3f, 0xfc0), 1);
            due("turned(0x5555, 0xaaaa)", x.turned(0x5555, 0xaaaa), 2);
            due("turned(0xff00, 0xff)", x.turned(0xff00, 0xff), 3);
        });
        test("Promise 9: LOW and HIGH (0 .. 12, LOW not above HIGH)", () -> {
            DifferentValues x = withNames(1, 2);
            due("kinds(3, 0, 0)", x.kinds(3, 0, 0), 0);
            due("kinds(3, 0, 12)", x.kinds(3, 0, 12), 1);
            due("kinds(3, 12, 12)", x.kinds(3, 12, 12), 2);
            due("kinds(3, 2, 2)", x.kinds(3, 2, 2), 3);
            due("sure(0)", x.sure(0), 0);
            due("sure(1)", x.sure(1), 1);
            due("sure(2)", x.sure(2), 0);
            due("sure(3)", x.sure(3), 1);
        });
        test("Promise 10: MOST (-1000000 .. 1000000)", () -> {
            DifferentValues x = withNames(1, 2);
            due("dear(3, 1000000)", x.dear(3, 1000000), 0);
            due("dear(3, -1000000)", x.dear(3, -1000000), 1);
            due("sure(0)", x.sure(0), 1);
            due("sure(1)", x.sure(1), 0);
            due("blocked()", x.blocked(), 1);
        });
    }

    private static void limitsAndCosts() {
        test("Promise 6: what they were (16 LOW + HIGH)", () -> {
            DifferentValues x = withNames(3, 3);
            x.counted(3);
            x.counted(3);
            due("limits(0, 0, 0, 0)", x.limits(0, 0, 0, 0), 8);
            due("limits(0, 0, 8, 8)", x.limits(0, 0, 8, 8), 0);
            due("limits(0, 0, 0, 8)", x.limits(0, 0, 0, 8), 136);
            due("limits(0, 0, 3, 5)", x.limits(0, 0, 3, 5), 8);
            due("limits(0, 0, 1, 1)", x.limits(0, 0, 1, 1), 53);
            due("limits(0, 11, 2, 7)", x.limits(0, 11, 2, 7), 8);
            due("limits(0, 11, 0, 8)", x.limits(0, 11, 0, 8), 39);
            due("limits(0, 1, 0, 8)", x.limits(0, 1, 0, 8), 8);
            due("limits(1, 0, 0, 8) of another ROW", x.limits(1, 0, 0, 8), 8);
        });
        test("Promise 11: the COST (-1000 .. 1000): what it was, and 1000", () -> {
            DifferentValues x = withNames(3, 3, 3, 3);
            x.dear(0b1010, 0);
            x.dear(0b1010, 0);
            due("cost(0, 1, 0, -1000)", x.cost(0, 1, 0, -1000), 1000);
            due("cost(0, 1, 0, 1000)", x.cost(0, 1, 0, 1000), 0);
            due("cost(0, 1, 0, -1)", x.cost(0, 1, 0, -1), 2000);
            due("cost(0, 1, 0, 0)", x.cost(0, 1, 0, 0), 999);
            due("cost(0, 3, 11, 5)", x.cost(0, 3, 11, 5), 1000);
            due("cost(0, 1, 11, 6)", x.cost(0, 1, 11, 6), 1000);
            due("cost(0, 3, 0, 7)", x.cost(0, 3, 0, 7), 1000);
            due("cost(0, 3, 11, 0)", x.cost(0, 3, 11, 0), 1005);
            due("cost(0, 1, 11, 0)", x.cost(0, 1, 11, 0), 1006);
            due("cost(1, 3, 0, 0) of another ROW", x.cost(1, 3, 0, 0), 1000);
        });
        test("Promise 11: the first and the last NAME and VALUE that there can be", () -> {
            DifferentValues x = alike(16, 4095);
            x.dear(0x8001, 0);
            due("cost(0, 0, 0, 1)", x.cost(0, 0, 0, 1), 1000);
            due("cost(0, 15, 11, 2)", x.cost(0, 15, 11, 2), 1000);
            due("cost(0, 0, 0, 0)", x.cost(0, 0, 0, 0), 1001);
            due("cost(0, 15, 11, 0)", x.cost(0, 15, 11, 0), 1002);
        });
    }

    private static void domains() {
        test("Promise 13: a row of bits (0 .. 4095): how many go", () -> {
            DifferentValues x = withNames(4095, 3);
            due("keep(0, 4095)", x.keep(0, 4095), 0);
            due("domain(0)", x.domain(0), 4095);
            due("keep(0, 2049)", x.keep(0, 2049), 10);
            due("keep(0, 4094)", x.keep(0, 4094), 1);
            due("keep(0, 2048)", x.keep(0, 2048), 0);
            dueDomains(x, 2048, 3);
        });
        test("Promise 13: the last but one VALUE goes, the last not", () -> {
            DifferentValues x = withNames(3);
            due("keep(0, 4094)", x.keep(0, 4094), 1);
            due("keep(0, 4093)", x.keep(0, 4093), -3);
            due("domain(0)", x.domain(0), 2);
        });
        test("Promise 13: with MARKS too", () -> {
            DifferentValues x = withNames(3);
            x.mark();
            due("keep(0, 1)", x.keep(0, 1), 1);
            due("domain(0)", x.domain(0), 1);
        });
        test("Promise 13: ROWS are not looked at", () -> {
            DifferentValues x = withNames(3, 3);
            x.different(3);
            due("keep(0, 1)", x.keep(0, 1), 1);
            due("keep(1, 1)", x.keep(1, 1), 1);
            due("blocked()", x.blocked(), 0);
        });
    }

    private static void run() {
        test("Promise 14: how many VALUES went from all DOMAINS, with no NAMES and with no ROWS", () -> {
            due("run()", new DifferentValues().run(), 0);
            due("run()", alike(16, 4095).run(), 0);
        });
        test("Promise 14: a VALUE that two ROWS take away went once", () -> {
            DifferentValues x = withNames(1, 3);
            x.different(3);
            x.different(3);
            x.dear(3, 0);
            due("told(4)", x.told(4), 3);
            due("run()", x.run(), 1);
        });
        test("Promise 14: the longest chain, through all NAMES", () -> {
            DifferentValues x = new DifferentValues();
            x.name(1);
            for (int n = 1; n < 12; n++) {
                x.name(1 << n | 1 << n - 1);
            }
            for (int r = 10; r >= 0; r--) {
                x.different(3 << r);
            }
            due("run()", x.run(), 11);
            for (int n = 0; n < 12; n++) {
                due("domain(" + n + ")", x.domain(n), 1 << n);
            }
            due("run() again", x.run(), 0);
        });
        test("Promise 14: after a run that is BLOCKED and a way back it runs", () -> {
            DifferentValues x = withNames(3, 3, 7);
            x.different(7);
            x.mark();
            x.keep(2, 3);
            due("run()", x.run(), -3);
            dueDomains(x, 3, 3, 3);
            due("back(1)", x.back(1), 1);
            due("run()", x.run(), 2);
            dueDomains(x, 3, 3, 4);
        });
        test("Promise 14: what is left is not always in a FULL PLAN", () -> {
            DifferentValues x = withNames(3, 3, 3);
            x.kinds(0b011, 2, 2);
            x.kinds(0b110, 2, 2);
            x.kinds(0b101, 2, 2);
            due("run()", x.run(), 0);
            due("plans()", x.plans(), 0);
        });
    }

    private static void inAndBlocked() {
        test("Promise 15: by the DOMAINS as they are, not by other ROWS", () -> {
            DifferentValues x = withNames(1, 3, 6);
            x.different(0b011);
            x.different(0b110);
            due("in(1, 1, 0)", x.in(1, 1, 0), 1);
            due("in(0, 1, 0)", x.in(0, 1, 0), 0);
            due("in(1, 2, 1)", x.in(1, 2, 1), 1);
            x.run();
            due("in(1, 1, 0)", x.in(1, 1, 0), 0);
            due("in(1, 2, 1)", x.in(1, 2, 1), 0);
        });
        test("Promise 15: nothing is IN a ROW without a PLAN", () -> {
            DifferentValues x = withNames(1, 1, 4095);
            x.different(7);
            x.dear(7, 1000000);
            x.same(1, 4);
            x.keep(2, 4094);
            for (int row = 0; row < 3; row++) {
                dueIn(x, row, 0, 0);
                dueIn(x, row, 2, 0);
            }
        });
        test("Promise 15: of one ROW after another, of each sort", () -> {
            DifferentValues x = withNames(3, 3, 3, 12);
            x.counted(0b0111);
            x.limits(0, 0, 2, 2);
            x.different(0b1011);
            x.kinds(0b0111, 2, 12);
            x.same(0b0001, 0b0010);
            x.turned(0b0001, 0b0010);
            x.dear(0b1001, 0);
            for (int round = 0; round < 2; round++) {
                for (int row = 0; row < 6; row++) {
                    dueIn(x, row, 0, row == 4 ? 1 : 3);
                    due("in(0, 1, 0)", x.in(0, 1, 0), 1);
                    due("great(1)", x.great(1), 0);
                    due("ways(1)", x.ways(1), 4);
                }
            }
        });
        test("Promise 15: the last ROW, NAME and VALUE that there can be", () -> {
            DifferentValues x = alike(16, 4095);
            for (int r = 0; r < 12; r++) {
                x.counted(0x8000);
            }
            due("in(11, 15, 11)", x.in(11, 15, 11), 1);
            due("in(11, 15, 0)", x.in(11, 15, 0), 1);
        });
        test("Promise 16: the least ROW that has no PLAN", () -> {
            DifferentValues x = withNames(1, 1);
            for (int r = 0; r < 12; r++) {
                due("blocked()", x.blocked(), DifferentValues.NONE);
                x.counted(3);
            }
            due("blocked()", x.blocked(), DifferentValues.NONE);
            x.limits(11, 0, 0, 1);
            due("blocked()", x.blocked(), 11);
            x.limits(4, 0, 0, 1);
            due("blocked()", x.blocked(), 4);
            x.limits(0, 1, 1, 1);
            due("blocked()", x.blocked(), 0);
        });
        test("Promise 16: NONE without ROWS", () -> {
            due("blocked()", new DifferentValues().blocked(), DifferentValues.NONE);
            due("blocked()", withNames(1).blocked(), DifferentValues.NONE);
        });
    }

    private static void reason() {
        test("Promise 17: 0 if it is IN it", () -> {
            DifferentValues x = withNames(3, 3, 4);
            x.different(7);
            due("reason(0, 0, 0)", x.reason(0, 0, 0), 0);
            due("reason(0, 2, 2)", x.reason(0, 2, 2), 0);
        });
        test("Promise 17: the one with the fewest NAMES", () -> {
            // Tight: {0}, {0, 1}, {0, 1, 2}, and {0, 1, 2, 3}.
            DifferentValues x = withNames(1, 3, 7, 15, 31);
            x.different(31);
            due("reason(0, 4, 0)", x.reason(0, 4, 0), 1);
            due("reason(0, 4, 1)", x.reason(0, 4, 1), 3);
            due("reason(0, 4, 2)", x.reason(0, 4, 2), 7);
            due("reason(0, 4, 3)", x.reason(0, 4, 3), 15);
            due("reason(0, 4, 4)", x.reason(0, 4, 4), 0);
        });
        test("Promise 17: TIGHT SETS without the NAME", () -> {
            // All three are tight, but with the name; {0} is tight without it.
            DifferentValues x = withNames(1, 7, 7);
            x.different(7);
            due("reason(0, 1, 0)", x.reason(0, 1, 0), 1);
            due("reason(0, 2, 0)", x.reason(0, 2, 0), 1);
            due("reason(0, 1, 1)", x.reason(0, 1, 1), 0);
        });
        test("Promise 17: with the VALUE in one of their DOMAINS", () -> {
            DifferentValues x = withNames(1, 6, 6, 7 + 8);
            x.different(15);
            due("reason(0, 3, 0)", x.reason(0, 3, 0), 1);
            due("reason(0, 3, 1)", x.reason(0, 3, 1), 6);
            due("reason(0, 3, 2)", x.reason(0, 3, 2), 6);
        });
        test("Promise 17: the SET is told by the numbers of the NAMES, not by their places in the ROW", () -> {
            int[] domains = new int[16];
            Arrays.fill(domains, 4095);
            domains[11] = 2048;
            domains[15] = 2049;
            DifferentValues x = withNames(domains);
            x.different(0b1000100000000001);
            x.different(0b1000100000000000);
            due("reason(0, 0, 11)", x.reason(0, 0, 11), 1 << 11);
            due("reason(0, 0, 0)", x.reason(0, 0, 0), 1 << 15 | 1 << 11);
            due("reason(1, 15, 11)", x.reason(1, 15, 11), 1 << 11);
        });
        test("Promise 17: by the DOMAINS as they are", () -> {
            DifferentValues x = withNames(7, 7, 7);
            x.different(7);
            due("reason(0, 2, 0)", x.reason(0, 2, 0), 0);
            x.keep(0, 1);
            due("reason(0, 2, 0)", x.reason(0, 2, 0), 1);
            x.keep(1, 2);
            due("reason(0, 2, 1)", x.reason(0, 2, 1), 2);
            x.keep(2, 2);
            due("reason(0, 2, 1)", x.reason(0, 2, 1), -3);
        });
    }

    private static void great() {
        test("Promise 18: without which as many of the others can, none", () -> {
            DifferentValues x = alike(8, 255);
            x.different(255);
            due("great(0)", x.great(0), 0);
        });
        test("Promise 18: without which as many of the others can, all", () -> {
            DifferentValues x = alike(8, 1);
            x.different(255);
            due("great(0)", x.great(0), 255);
        });
        test("Promise 18: those that stand behind a chain too", () -> {
            // Without 0, name 1 has 0 and name 2 has 1; 3 has a value of its own.
            DifferentValues x = withNames(1, 3, 2, 12);
            x.different(15);
            due("great(0)", x.great(0), 7);
        });
        test("Promise 18: those that could give up a VALUE but have another need not be missed", () -> {
            DifferentValues x = withNames(1, 1, 3);
            x.different(7);
            due("great(0)", x.great(0), 3);
        });
        test("Promise 18: the SET is told by the numbers of the NAMES", () -> {
            DifferentValues x = alike(16, 2);
            x.different(1 << 15 | 1 << 3);
            due("great(0)", x.great(0), 1 << 15 | 1 << 3);
            x.different(1 << 15);
            due("great(1)", x.great(1), 0);
        });
    }

    private static void ways() {
        test("Promise 19: how many PLANS, the most that there can be", () -> {
            DifferentValues x = alike(8, 4095);
            x.different(255);
            due("ways(0)", x.ways(0), 12L * 11 * 10 * 9 * 8 * 7 * 6 * 5);
        });
        test("Promise 19: how many PLANS, one and none", () -> {
            DifferentValues x = withNames(1, 3, 7, 15, 31, 63, 127, 255);
            x.different(255);
            due("ways(0)", x.ways(0), 1);
            x.keep(7, 127);
            due("ways(0)", x.ways(0), 0);
        });
        test("Promise 19: how many PLANS, of NAMES that have VALUES of their own", () -> {
            DifferentValues x = withNames(7, 56, 448, 3584);
            x.different(15);
            due("ways(0)", x.ways(0), 81);
        });
        test("Promise 19: other NAMES and ROWS do not count", () -> {
            DifferentValues x = withNames(3, 3, 3);
            x.different(3);
            x.counted(3);
            x.limits(1, 0, 0, 0);
            due("ways(0)", x.ways(0), 2);
        });
    }

    private static void end() {
        test("Promise 20: how many different VALUES at least (0), at most (1)", () -> {
            DifferentValues x = withNames(3, 6, 12, 24, 48, 96, 192, 384);
            x.kinds(255, 0, 12);
            due("end(0, 0)", x.end(0, 0), 4);
            due("end(0, 1)", x.end(0, 1), 8);
        });
        test("Promise 20: LOW and HIGH left aside", () -> {
            DifferentValues x = withNames(3, 3);
            x.kinds(3, 0, 0);
            x.kinds(3, 12, 12);
            for (int row = 0; row < 2; row++) {
                due("end(" + row + ", 0)", x.end(row, 0), 1);
                due("end(" + row + ", 1)", x.end(row, 1), 2);
            }
        });
        test("Promise 20: at least as many as NAMES, if no two share a VALUE", () -> {
            DifferentValues x = withNames(1, 2, 4, 8, 16, 32, 64, 128);
            x.kinds(255, 0, 12);
            due("end(0, 0)", x.end(0, 0), 8);
            due("end(0, 1)", x.end(0, 1), 8);
        });
        test("Promise 20: at most as many as VALUES, if there are fewer than NAMES", () -> {
            DifferentValues x = alike(8, 1025);
            x.kinds(255, 0, 12);
            due("end(0, 0)", x.end(0, 0), 1);
            due("end(0, 1)", x.end(0, 1), 2);
        });
        test("Promise 20: of one ROW after another, the most first", () -> {
            DifferentValues x = withNames(1, 3, 7, 15, 15);
            x.kinds(0b00011, 0, 12);
            x.kinds(0b11111, 0, 12);
            x.kinds(0b10000, 0, 12);
            x.dear(0b00111, 0);
            due("end(1, 1)", x.end(1, 1), 4);
            due("end(0, 1)", x.end(0, 1), 2);
            due("end(2, 1)", x.end(2, 1), 1);
            due("end(3, 1)", x.end(3, 1), 0);
            due("end(1, 1)", x.end(1, 1), 4);
            due("end(0, 0)", x.end(0, 0), 1);
            due("end(1, 0)", x.end(1, 0), 1);
        });
        test("Promise 20: one NAME of KINDS", () -> {
            DifferentValues x = withNames(4095);
            x.kinds(1, 0, 12);
            due("end(0, 0)", x.end(0, 0), 1);
            due("end(0, 1)", x.end(0, 1), 1);
        });
        test("Promise 20: the least, the greatest sum, MOST left aside", () -> {
            DifferentValues x = withNames(3, 3);
            x.dear(3, -1000000);
            x.cost(0, 0, 0, 1000);
            x.cost(0, 0, 1, -3);
            x.cost(0, 1, 0, -1000);
            x.cost(0, 1, 1, 5);
            due("end(0, 0)", x.end(0, 0), -1003);
            due("end(0, 1)", x.end(0, 1), 1005);
            x.keep(0, 1);
            due("end(0, 0)", x.end(0, 0), 1005);
        });
        test("Promise 20: the cheapest VALUE of each is not always for it", () -> {
            DifferentValues x = withNames(3, 3);
            x.dear(3, 0);
            x.cost(0, 0, 0, -10);
            x.cost(0, 1, 0, -9);
            x.cost(0, 1, 1, 4);
            // -10 + 4 against 0 - 9.
            due("end(0, 0)", x.end(0, 0), -9);
            due("end(0, 1)", x.end(0, 1), -6);
        });
        test("Promise 20: no two of one VALUE, as many NAMES as VALUES", () -> {
            DifferentValues x = alike(8, 255);
            x.dear(255, 0);
            for (int n = 0; n < 8; n++) {
                x.cost(0, n, 0, n + 1);
                x.cost(0, n, 7, -10 * n);
            }
            due("end(0, 0)", x.end(0, 0), 1 - 70);
            due("end(0, 1)", x.end(0, 1), 8);
        });
    }

    private static void sure() {
        test("Promise 21: DIFFERENT, if no two DOMAINS share a VALUE", () -> {
            DifferentValues x = withNames(3, 12, 2032, 2049);
            x.different(0b0111);
            x.different(0b1110);
            x.different(0b1111);
            due("sure(0)", x.sure(0), 1);
            due("sure(1)", x.sure(1), 1);
            due("sure(2)", x.sure(2), 0);
        });
        test("Promise 21: COUNTED, as many as must have it, as many as can", () -> {
            DifferentValues x = withNames(1, 1, 3, 2);
            x.counted(15);
            x.limits(0, 0, 2, 3);
            x.limits(0, 1, 1, 2);
            due("sure(0)", x.sure(0), 1);
            x.limits(0, 0, 3, 3);
            due("sure(0)", x.sure(0), 0);
            x.limits(0, 0, 2, 2);
            due("sure(0)", x.sure(0), 0);
            x.limits(0, 0, 0, 8);
            x.limits(0, 1, 2, 2);
            due("sure(0)", x.sure(0), 0);
            x.limits(0, 1, 1, 1);
            due("sure(0)", x.sure(0), 0);
        });
        test("Promise 21: SAME, if all have one VALUE left and as many here as there", () -> {
            DifferentValues x = withNames(1, 2, 2, 1, 3);
            x.same(0b00011, 0b01100);
            x.same(0b00001, 0b00010);
            x.same(0b00001, 0b10000);
            due("sure(0)", x.sure(0), 1);
            due("sure(1)", x.sure(1), 0);
            due("sure(2)", x.sure(2), 0);
            x.keep(4, 1);
            due("sure(2)", x.sure(2), 1);
        });
        test("Promise 21: TURNED, if all have one VALUE left and each meets the other", () -> {
            DifferentValues x = withNames(2, 4, 1, 4, 1, 2);
            x.turned(0b000111, 0b111000);
            x.turned(0b000001, 0b000100);
            due("sure(0)", x.sure(0), 1);
            due("sure(1)", x.sure(1), 0);
        });
        test("Promise 21: KINDS, if the fewest are LOW and the most are HIGH", () -> {
            DifferentValues x = withNames(3, 6, 8);
            x.kinds(7, 2, 3);
            x.kinds(7, 3, 3);
            x.kinds(7, 2, 2);
            due("sure(0)", x.sure(0), 1);
            due("sure(1)", x.sure(1), 0);
            due("sure(2)", x.sure(2), 0);
        });
        test("Promise 21: DEAR, if no two DOMAINS share a VALUE and the dearest are MOST", () -> {
            DifferentValues x = withNames(3, 12, 6);
            x.dear(0b011, 7);
            x.dear(0b011, 6);
            x.dear(0b101, 1000);
            for (int row = 0; row < 2; row++) {
                x.cost(row, 0, 1, 3);
                x.cost(row, 1, 3, 4);
            }
            due("sure(0)", x.sure(0), 1);
            due("sure(1)", x.sure(1), 0);
            due("sure(2)", x.sure(2), 0);
            x.keep(0, 1);
            due("sure(1)", x.sure(1), 1);
            due("sure(2)", x.sure(2), 1);
        });
        test("Promise 21: a ROW without a PLAN is not sure", () -> {
            DifferentValues x = withNames(1, 1, 2);
            x.different(3);
            x.same(1, 4);
            x.turned(1, 4);
            x.kinds(3, 2, 2);
            x.dear(3, 0);
            for (int row = 0; row < 5; row++) {
                due("sure(" + row + ")", x.sure(row), 0);
            }
        });
    }

    private static void marks() {
        test("Promise 22: a MARK more: how many there are then, a 20th and a 21st", () -> {
            DifferentValues x = withNames(3);
            for (int m = 1; m <= 20; m++) {
                due("mark()", x.mark(), m);
            }
            due("mark()", x.mark(), -4);
            due("told(2)", x.told(2), 20);
            due("back(20)", x.back(20), 0);
            due("told(2)", x.told(2), 19);
            due("mark()", x.mark(), 20);
            due("back(1)", x.back(1), 0);
            due("mark()", x.mark(), 1);
        });
        test("A MARK keeps all DOMAINS as they are then, of all NAMES", () -> {
            DifferentValues x = alike(16, 4095);
            x.mark();
            for (int n = 0; n < 16; n++) {
                x.keep(n, 1 << n % 12);
            }
            due("told(3)", x.told(3), 16);
            due("back(1)", x.back(1), 176);
            for (int n = 0; n < 16; n++) {
                due("domain(" + n + ")", x.domain(n), 4095);
            }
        });
        test("Promise 23: all DOMAINS are as they were at MARK m, of 20 MARKS", () -> {
            for (int m = 1; m <= 20; m++) {
                DifferentValues x = withNames(4095, 4095);
                for (int i = 1; i <= 20; i++) {
                    x.mark();
                    x.keep(i / 11, 4095 ^ 1 << (i - 1) % 10);
                }
                due("back(" + m + ")", x.back(m), 21 - m);
                due("domain(0)", x.domain(0), 4095 ^ (1 << Math.min(m - 1, 10)) - 1);
                due("domain(1)", x.domain(1), 4095 ^ (1 << Math.max(m - 11, 0)) - 1);
                due("told(2)", x.told(2), m - 1);
            }
        });
        test("Promise 23: it and those behind it go", () -> {
            DifferentValues x = withNames(7);
            x.mark();
            x.keep(0, 3);
            x.mark();
            x.keep(0, 1);
            x.mark();
            due("back(2)", x.back(2), 1);
            due("back(3)", x.back(3), -1);
            due("back(2)", x.back(2), -1);
            due("told(2)", x.told(2), 1);
            due("domain(0)", x.domain(0), 3);
            due("mark()", x.mark(), 2);
            x.keep(0, 2);
            due("back(2)", x.back(2), 1);
            due("domain(0)", x.domain(0), 3);
            due("back(1)", x.back(1), 1);
            due("domain(0)", x.domain(0), 7);
        });
        test("Promise 23: what a run took away comes back", () -> {
            DifferentValues x = withNames(1, 3, 7);
            x.different(7);
            x.mark();
            due("run()", x.run(), 3);
            due("back(1)", x.back(1), 3);
            dueDomains(x, 1, 3, 7);
        });
        test("Promise 23: ROWS stay", () -> {
            DifferentValues x = withNames(3, 3);
            x.different(3);
            x.mark();
            x.back(1);
            due("told(1)", x.told(1), 1);
            due("ways(0)", x.ways(0), 2);
            due("different(1)", x.different(1), 1);
        });
    }

    private static void plans() {
        test("Promise 24: 1 without NAMES", () -> {
            due("plans()", new DifferentValues().plans(), 1);
            DifferentValues x = withNames(1);
            due("plans()", x.plans(), 1);
            x.clear();
            due("plans()", x.plans(), 1);
        });
        test("Promise 24: the product is not above 20000", () -> {
            DifferentValues x = withNames(31, 62, 124, 248, 15, 4080);
            due("plans() of 20000", x.plans(), 20000);
            x.different(1);
            due("plans() of 20000", x.plans(), 20000);
        });
        test("Promise 24: -4 the product is above 20000", () -> {
            // No product of domains lies between 20000 and 20160.
            DifferentValues x = withNames(4095, 4095, 1023, 127, 3);
            due("plans() of 20160", x.plans(), -4);
            x.keep(4, 1);
            due("plans() of 10080", x.plans(), 10080);
        });
        test("Promise 24: the product, not how many FULL PLANS there are", () -> {
            DifferentValues x = withNames(4095, 4095, 1023, 127, 3);
            x.dear(31, -1);
            due("blocked()", x.blocked(), 0);
            due("plans()", x.plans(), -4);
        });
        test("Promise 24: products beyond 32 and 64 bits", () -> {
            due("plans() of 12 to the 16", alike(16, 4095).plans(), -4);
            due("plans() of 2 to the 32", withNames(
                15, 15, 15, 15, 15, 15, 15, 15, 15, 15, 15, 15, 15, 15, 15, 15).plans(), -4);
            due("plans() of 2 to the 48", alike(16, 255).plans(), -4);
            due("plans() of 2 to the 16", alike(16, 3).plans(), -4);
        });
        test("Promise 24: how many, of 16 NAMES", () -> {
            due("plans() of 1", alike(16, 2048).plans(), 1);
            DifferentValues x = withNames(3, 3, 3, 3, 3, 3, 3, 3, 3, 3, 3, 3, 3, 3, 1, 2);
            due("plans()", x.plans(), 16384);
            duePlan(x, 16383, 1, 1, 1, 1, 1, 1, 1, 1, 1, 1, 1, 1, 1, 1, 0, 1);
        });
        test("Promise 24: none", () -> {
            DifferentValues x = withNames(1, 1);
            x.different(3);
            due("plans()", x.plans(), 0);
            due("plan(0, 0)", x.plan(0, 0), -2);
        });
        test("Promise 24: by the DOMAINS as they are, which it leaves so", () -> {
            DifferentValues x = withNames(1, 3);
            x.different(3);
            due("plans()", x.plans(), 1);
            dueDomains(x, 1, 3);
        });
    }

    private static void plan() {
        test("Promise 25: FULL PLAN k (0 the first), the last and one more", () -> {
            DifferentValues x = withNames(6, 6);
            x.different(3);
            due("plan(-1, 0)", x.plan(-1, 0), -2);
            duePlan(x, 0, 1, 2);
            duePlan(x, 1, 2, 1);
            due("plan(2, 0)", x.plan(2, 0), -2);
        });
        test("Promise 25: the last of 20000, and one more", () -> {
            DifferentValues x = withNames(31, 62, 124, 248, 15, 4080);
            duePlan(x, 0, 0, 1, 2, 3, 0, 4);
            duePlan(x, 19999, 4, 5, 6, 7, 3, 11);
            // 10000 is 2 times 4000, 2 times 800, 2 times 160, 2 times 32, 2 times 8.
            duePlan(x, 10000, 2, 3, 4, 5, 2, 4);
            due("plan(20000, 0)", x.plan(20000, 0), -2);
        });
        test("Promise 25: without plans() before it", () -> {
            DifferentValues x = withNames(2048, 1);
            due("plan(0, 1)", x.plan(0, 1), 0);
            due("plan(0, 0)", x.plan(0, 0), 11);
            due("plan(1, 0)", x.plan(1, 0), -2);
            due("plans()", x.plans(), 1);
        });
        test("Promise 25: of all VALUES and of the last NAME", () -> {
            int[] domains = new int[16];
            for (int n = 0; n < 16; n++) {
                domains[n] = 1 << (n * 5 + 3) % 12;
            }
            DifferentValues x = withNames(domains);
            for (int n = 0; n < 16; n++) {
                due("plan(0, " + n + ")", x.plan(0, n), (n * 5 + 3) % 12);
            }
            due("plan(0, 16)", x.plan(0, 16), -1);
        });
        test("Promise 25: all FULL PLANS of DIFFERENT, COUNTED, KINDS and DEAR, in their order", () -> {
            DifferentValues x = withNames(7, 7, 3, 3);
            x.different(0b0011);
            x.counted(0b1111);
            x.limits(1, 0, 1, 2);
            x.kinds(0b1111, 2, 2);
            x.dear(0b0110, 5);
            x.cost(3, 1, 0, 5);
            x.cost(3, 2, 1, 1);
            // Names 0 and 1 differ, so do 1 and 2: with two kinds, 0 and 2 have one value; of 1 0 1 the sum is 6.
            due("plans()", x.plans(), 1);
            duePlan(x, 0, 0, 1, 0, 1);
            x.limits(1, 0, 1, 3);
            due("plans()", x.plans(), 3);
            duePlan(x, 0, 0, 1, 0, 0);
            duePlan(x, 1, 0, 1, 0, 1);
            duePlan(x, 2, 0, 2, 0, 0);
        });
        test("Promise 25: all FULL PLANS of ROWS of each sort, in their order", () -> {
            DifferentValues x = withNames(7, 7, 6, 3, 12, 2049, 3, 3, 3, 3);
            x.different(0b111);
            x.counted(0b1111);
            x.same(1 << 2, 1 << 4);
            x.turned(0b11 << 6, 0b11 << 8);
            x.kinds(63, 3, 4);
            x.dear(0b111000, 7);
            x.limits(1, 0, 1, 2);
            x.cost(5, 4, 2, 3);
            x.cost(5, 5, 11, 4);
            // Name 2 has 2 as name 4 has, so 0 and 1 are left for names 0 and 1; names 3 and 5 can't both have 0.
            int[][] starts = {{0, 1, 2, 0, 2, 11}, {0, 1, 2, 1, 2, 0}, {0, 1, 2, 1, 2, 11},
                {1, 0, 2, 0, 2, 11}, {1, 0, 2, 1, 2, 0}, {1, 0, 2, 1, 2, 11}};
            int[][] ends = {{0, 1, 0, 1}, {1, 0, 1, 0}};
            due("plans()", x.plans(), 12);
            for (int k = 0; k < 12; k++) {
                duePlan(x, k, starts[k / 2]);
                for (int n = 0; n < 4; n++) {
                    due("plan(" + k + ", " + (6 + n) + ")", x.plan(k, 6 + n), ends[k % 2][n]);
                }
            }
            due("plan(12, 0)", x.plan(12, 0), -2);
        });
    }

    private static void told() {
        test("Promise 26: 3 VALUES in all DOMAINS together, 16 times 12", () -> {
            DifferentValues x = alike(16, 4095);
            due("told(3)", x.told(3), 192);
            x.keep(15, 1);
            due("told(3)", x.told(3), 181);
            x.clear();
            due("told(3)", x.told(3), 0);
        });
        test("Promise 26: 4 is for each ROW and each of its NAMES", () -> {
            DifferentValues x = withNames(1, 3, 3);
            for (int r = 0; r < 12; r++) {
                x.different(3);
                due("told(4)", x.told(4), r + 1);
            }
            x.run();
            due("told(4)", x.told(4), 0);
        });
        test("Promise 26: 4 counts VALUES of DOMAINS alone", () -> {
            DifferentValues x = withNames(1, 1, 4095);
            x.different(0b011);
            due("told(4)", x.told(4), 2);
            x.turned(0b001, 0b100);
            due("told(4)", x.told(4), 13);
        });
        test("Promise 26: 0, 1, 2 of a full object", () -> {
            DifferentValues x = alike(16, 1);
            for (int r = 0; r < 12; r++) {
                x.counted(1);
            }
            for (int m = 0; m < 20; m++) {
                x.mark();
            }
            due("told(0)", x.told(0), 16);
            due("told(1)", x.told(1), 12);
            due("told(2)", x.told(2), 20);
            due("told(3)", x.told(3), 16);
            due("told(4)", x.told(4), 0);
        });
    }

    private static void changesAreSeenByPlans() {
        test("Promises 24 and 25: after each call that changes something", () -> {
            DifferentValues x = withNames(7);
            due("plans()", x.plans(), 3);
            x.name(7);
            due("plans() after name", x.plans(), 9);
            x.different(3);
            due("plans() after different", x.plans(), 6);
            x.counted(3);
            due("plans() after counted", x.plans(), 6);
            x.limits(1, 0, 1, 8);
            due("plans() after limits", x.plans(), 4);
            x.kinds(3, 2, 2);
            due("plans() after kinds", x.plans(), 4);
            x.dear(3, 0);
            due("plans() after dear", x.plans(), 4);
            x.cost(3, 0, 0, 1);
            due("plans() after cost", x.plans(), 2);
            x.mark();
            due("plans() after mark", x.plans(), 2);
            x.keep(0, 3);
            due("plans() after keep", x.plans(), 1);
            due("run()", x.run(), 3);
            due("plans() after run", x.plans(), 1);
            duePlan(x, 0, 1, 0);
            x.back(1);
            due("plans() after back", x.plans(), 2);
            duePlan(x, 1, 2, 0);
            x.name(1);
            x.same(2, 4);
            due("plans() after same", x.plans(), 2);
            x.turned(1, 4);
            due("plans() after turned", x.plans(), 0);
            x.clear();
            due("plans() after clear", x.plans(), 1);
        });
    }

    private static void lastCall() {
        test("An object is used for at most 512 calls", () -> {
            DifferentValues x = new DifferentValues();
            for (int i = 0; i < 500; i++) {
                x.clear();
            }
            due("call 501", x.name(3), 0);
            due("call 502", x.name(3), 1);
            due("call 503", x.name(7), 2);
            due("call 504", x.different(7), 0);
            due("call 505", x.mark(), 1);
            due("call 506", x.run(), 2);
            due("call 507", x.domain(2), 4);
            due("call 508", x.plans(), 2);
            due("call 509", x.plan(1, 0), 1);
            due("call 510", x.back(1), 2);
            due("call 511", x.reason(0, 2, 1), 3);
            due("call 512", x.told(4), 2);
        });
    }
}
