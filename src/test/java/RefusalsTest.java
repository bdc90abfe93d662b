import java.util.ArrayList;
import java.util.Arrays;
import java.util.List;
import java.util.function.Supplier;

/**
 * Each refusal that the document tells: its code, that of two reasons at once the one told first is answered,
 * and that then nothing changes: all that can be asked afterwards answers as if the call had not been.
 */
public final class RefusalsTest {
    private static final int MIN = Integer.MIN_VALUE;
    private static final int MAX = Integer.MAX_VALUE;

    // The rows of each sort in the states below.
    private static final int DIFFERENT = 0;
    private static final int COUNTED = 1;
    private static final int SAME = 2;
    private static final int TURNED = 3;
    private static final int KINDS = 4;
    private static final int DEAR = 5;

    private static final int UNKNOWN = -1;
    private static final int OUTSIDE = -2;
    private static final int NOT_SO = -3;
    private static final int NO_ROOM = -4;
    private static final String ARGUMENT = "throws.IllegalArgumentException";
    private static final String STATE = "throws.IllegalStateException";

    private static final State EMPTY = new State("a new object", DifferentValues::new);
    private static final State EMPTY_MARKED = new State("a new object with a mark", () -> marked(new DifferentValues()));
    private static final State SMALL = new State("ten names, six rows", RefusalsTest::small);
    private static final State SMALL_MARKED = new State("ten names, six rows, two marks", RefusalsTest::smallMarked);
    private static final State FULL = new State("16 names, 12 rows", RefusalsTest::full);
    private static final State FULL_MARKED = new State("16 names, 12 rows, 20 marks", RefusalsTest::fullMarked);
    private static final State BLOCKED = new State("rows without plans", RefusalsTest::blocked);
    private static final State CHAIN = new State("rows with plans, but a blocked rest", RefusalsTest::chain);

    private static final State[] ALL = {EMPTY, EMPTY_MARKED, SMALL, SMALL_MARKED, FULL, FULL_MARKED, BLOCKED, CHAIN};
    /** With a row of each sort. */
    private static final State[] WITH_ROWS = {SMALL, SMALL_MARKED, FULL, FULL_MARKED};
    private static final State[] WITH_MARKS = {SMALL_MARKED, FULL_MARKED};

    private static final List<Probe> PROBES = probes();

    private static String sentence = "";
    private static int sentences = 0;
    private static int asked = 0;
    private static int wild = 0;
    private static int wrong = 0;

    private record State(String name, Supplier<DifferentValues> make) {
    }

    /** Some calls, and what they answer one after the other. */
    private interface Probe {
        String on(DifferentValues x);
    }

    public static void main(String[] args) {
        names();
        rowsOfOneSet("different");
        rowsOfOneSet("counted");
        rowsOfTwoSets("same", 5);
        rowsOfTwoSets("turned", 8);
        kinds();
        dear();
        limits();
        cost();
        domains();
        run();
        in();
        reason();
        questionsOfRows();
        ways();
        end();
        marks();
        plans();
        told();
        nothingElseIsThrown();
        System.out.println(wrong == 0
            ? asked + " refusals of " + sentences + " sentences are as due, and " + wild + " wild calls"
            : wrong + " faults in " + asked + " refusals and " + wild + " wild calls");
        if (wrong != 0) {
            System.exit(1);
        }
    }

    private static void test(String what, Runnable body) {
        sentence = what;
        sentences++;
        body.run();
    }

    private static void fault(State state, String what) {
        wrong++;
        System.out.println(sentence + " (" + state.name + "): " + what);
    }

    // What is there before the call.

    private static DifferentValues marked(DifferentValues x) {
        x.mark();
        return x;
    }

    private static DifferentValues withNames(int... domains) {
        DifferentValues x = new DifferentValues();
        for (int d : domains) {
            x.name(d);
        }
        return x;
    }

    private static void sixRows(DifferentValues x) {
        x.different(0b111);
        x.counted(0b1111);
        x.same(1 << 2, 1 << 4);
        x.turned(0b11 << 6, 0b11 << 8);
        x.kinds(63, 3, 4);
        x.dear(0b111000, 10);
        x.limits(COUNTED, 0, 1, 2);
        x.limits(COUNTED, 2, 0, 3);
        x.cost(DEAR, 4, 2, 3);
        x.cost(DEAR, 5, 11, 4);
        x.cost(DEAR, 3, 0, -7);
    }

    private static DifferentValues small() {
        DifferentValues x = withNames(7, 7, 6, 3, 12, 2049, 3, 3, 3, 3);
        sixRows(x);
        return x;
    }

    private static DifferentValues smallMarked() {
        DifferentValues x = marked(small());
        x.keep(0, 3);
        x.mark();
        x.keep(5, 2048);
        return x;
    }

    private static DifferentValues full() {
        DifferentValues x = withNames(7, 7, 6, 3, 12, 2049, 3, 3, 3, 3, 4095, 4095, 255, 255, 63, 2049);
        sixRows(x);
        x.different(0xff00);
        x.counted(0xff00);
        x.same(0x1f << 6, 0x1f << 11);
        x.turned(0xff, 0xff00);
        x.kinds(0xff00, 2, 5);
        x.dear(0xff00, 50);
        x.limits(7, 0, 1, 1);
        x.limits(7, 11, 0, 0);
        x.cost(11, 15, 11, 1000);
        x.cost(11, 8, 0, -1000);
        return x;
    }

    private static DifferentValues fullMarked() {
        DifferentValues x = full();
        for (int i = 0; i < 20; i++) {
            x.mark();
            x.keep(10 + i / 10, 4095 ^ 1 << i % 10);
        }
        return x;
    }

    private static DifferentValues blocked() {
        DifferentValues x = withNames(1, 1, 6, 2);
        x.different(0b11);
        x.counted(0b111);
        x.same(0b1, 0b100);
        x.turned(0b1, 0b1000);
        x.kinds(0b11, 2, 2);
        x.dear(0b11, 1000000);
        x.limits(COUNTED, 5, 1, 8);
        return x;
    }

    private static DifferentValues chain() {
        DifferentValues x = withNames(1, 3, 6, 4);
        x.different(0b0011);
        x.different(0b0110);
        x.different(0b1100);
        return x;
    }

    // What is asked after it: each probe on an object of its own, so that none has too many calls.

    private static List<Probe> probes() {
        List<Probe> probes = new ArrayList<>();
        probes.add(RefusalsTest::counts);
        probes.add(RefusalsTest::rowAnswers);
        probes.add(RefusalsTest::planAnswers);
        probes.add(RefusalsTest::restAnswers);
        probes.add(RefusalsTest::wayBack);
        probes.add(RefusalsTest::nextNumbers);
        probes.add(RefusalsTest::allLimits);
        for (int row = 0; row < 12; row++) {
            int r = row;
            probes.add(x -> inAnswers(x, r));
            probes.add(x -> costAnswers(x, r));
            probes.add(x -> reasonAnswers(x, r));
        }
        return probes;
    }

    private static void add(StringBuilder all, DifferentValues x, String call, long... a) {
        all.append(' ').append(answer(x, call, a));
    }

    private static void addDomains(StringBuilder all, DifferentValues x) {
        for (int n = 0; n <= 16; n++) {
            add(all, x, "domain", n);
        }
    }

    private static String counts(DifferentValues x) {
        StringBuilder all = new StringBuilder("counts");
        for (int what = 0; what <= 4; what++) {
            add(all, x, "told", what);
        }
        addDomains(all, x);
        add(all, x, "blocked");
        return all.toString();
    }

    private static String rowAnswers(DifferentValues x) {
        StringBuilder all = new StringBuilder("of rows");
        for (int row = 0; row <= 12; row++) {
            add(all, x, "sure", row);
            add(all, x, "great", row);
            add(all, x, "ways", row);
            add(all, x, "end", row, 0);
            add(all, x, "end", row, 1);
        }
        return all.toString();
    }

    private static String planAnswers(DifferentValues x) {
        StringBuilder all = new StringBuilder("of plans");
        add(all, x, "plans");
        for (int k = 0; k < 20; k++) {
            for (int n = 0; n < 16; n++) {
                add(all, x, "plan", k, n);
            }
        }
        return all.toString();
    }

    private static String restAnswers(DifferentValues x) {
        StringBuilder all = new StringBuilder("of the rest");
        add(all, x, "run");
        addDomains(all, x);
        return all.toString();
    }

    private static String wayBack(DifferentValues x) {
        StringBuilder all = new StringBuilder("of the way back");
        add(all, x, "mark");
        for (int m = 20; m >= 0; m--) {
            add(all, x, "back", m);
            addDomains(all, x);
        }
        return all.toString();
    }

    private static String nextNumbers(DifferentValues x) {
        StringBuilder all = new StringBuilder("of the next numbers");
        add(all, x, "back", 1);
        add(all, x, "name", 4095);
        add(all, x, "different", 1);
        add(all, x, "mark");
        add(all, x, "told", 1);
        return all.toString();
    }

    private static String allLimits(DifferentValues x) {
        StringBuilder all = new StringBuilder("of the limits");
        add(all, x, "back", 1);
        for (int row = 0; row < 12; row++) {
            for (int v = 0; v < 12; v++) {
                add(all, x, "limits", row, v, 0, 8);
            }
        }
        return all.toString();
    }

    private static String inAnswers(DifferentValues x, int row) {
        StringBuilder all = new StringBuilder("of what is in row " + row);
        for (int n = 0; n < 16; n++) {
            for (int v = 0; v < 12; v++) {
                add(all, x, "in", row, n, v);
            }
        }
        return all.toString();
    }

    private static String costAnswers(DifferentValues x, int row) {
        StringBuilder all = new StringBuilder("of the costs of row " + row);
        add(all, x, "back", 1);
        for (int n = 0; n < 16; n++) {
            for (int v = 0; v < 12; v++) {
                add(all, x, "cost", row, n, v, 0);
            }
        }
        return all.toString();
    }

    private static String reasonAnswers(DifferentValues x, int row) {
        StringBuilder all = new StringBuilder("of the reasons of row " + row);
        for (int n = 0; n < 16; n++) {
            for (int v = 0; v < 12; v++) {
                add(all, x, "reason", row, n, v);
            }
        }
        return all.toString();
    }

    // The call itself.

    private static String answer(DifferentValues x, String call, long... a) {
        try {
            return String.valueOf(ask(x, call, a));
        } catch (RuntimeException e) {
            return "throws." + e.getClass().getSimpleName();
        }
    }

    private static long ask(DifferentValues x, String call, long... a) {
        switch (call) {
            case "name": return x.name((int) a[0]);
            case "different": return x.different((int) a[0]);
            case "counted": return x.counted((int) a[0]);
            case "limits": return x.limits((int) a[0], (int) a[1], (int) a[2], (int) a[3]);
            case "same": return x.same((int) a[0], (int) a[1]);
            case "turned": return x.turned((int) a[0], (int) a[1]);
            case "kinds": return x.kinds((int) a[0], (int) a[1], (int) a[2]);
            case "dear": return x.dear((int) a[0], a[1]);
            case "cost": return x.cost((int) a[0], (int) a[1], (int) a[2], (int) a[3]);
            case "domain": return x.domain((int) a[0]);
            case "keep": return x.keep((int) a[0], (int) a[1]);
            case "run": return x.run();
            case "in": return x.in((int) a[0], (int) a[1], (int) a[2]);
            case "blocked": return x.blocked();
            case "reason": return x.reason((int) a[0], (int) a[1], (int) a[2]);
            case "great": return x.great((int) a[0]);
            case "ways": return x.ways((int) a[0]);
            case "end": return x.end((int) a[0], (int) a[1]);
            case "sure": return x.sure((int) a[0]);
            case "mark": return x.mark();
            case "back": return x.back((int) a[0]);
            case "plans": return x.plans();
            case "plan": return x.plan((int) a[0], (int) a[1]);
            case "told": return x.told((int) a[0]);
            default: throw new AssertionError(call);
        }
    }

    private static void refused(State state, long code, String call, long... a) {
        refused(state, String.valueOf(code), call, a);
    }

    private static void refused(State[] states, long code, String call, long... a) {
        for (State state : states) {
            refused(state, code, call, a);
        }
    }

    private static void refused(State state, String due, String call, long... a) {
        asked++;
        String text = call + Arrays.toString(a);
        String got = answer(state.make.get(), call, a);
        if (!got.equals(due)) {
            fault(state, text + " answered " + got + ", due is " + due);
        }
        for (Probe probe : PROBES) {
            DifferentValues refusing = state.make.get();
            answer(refusing, call, a);
            String after = probe.on(refusing);
            String without = probe.on(state.make.get());
            if (!after.equals(without)) {
                fault(state, "after " + text + " the answers are " + after + ", without it " + without);
            }
        }
    }

    // The sentences.

    private static void names() {
        test("Promise 3: a DOMAIN (bits, 1 .. 4095), -2", () -> {
            for (int domain : new int[] {0, -1, 4096, 4097, 8191, 65536, MIN, MAX}) {
                refused(ALL, OUTSIDE, "name", domain);
            }
        });
        test("Promise 3: -3 there are MARKS, before -4", () -> {
            refused(EMPTY_MARKED, NOT_SO, "name", 1);
            refused(SMALL_MARKED, NOT_SO, "name", 4095);
            refused(FULL_MARKED, NOT_SO, "name", 1);
        });
        test("Promise 3: -4, a 17th NAME", () -> refused(FULL, NO_ROOM, "name", 1));
    }

    /** Promises 4 and 5, and what 9 and 10 share with them. */
    private static void rowsOfOneSet(String call, long... more) {
        test(call + ": -1, a NAME that is not there, before all others", () -> {
            refused(EMPTY, UNKNOWN, call, with(more, 1));
            refused(EMPTY_MARKED, UNKNOWN, call, with(more, 1));
            for (State state : new State[] {SMALL, SMALL_MARKED}) {
                refused(state, UNKNOWN, call, with(more, 1 << 10));
                refused(state, UNKNOWN, call, with(more, 1 << 10 | 1));
                refused(state, UNKNOWN, call, with(more, (1 << 11) - 1));
            }
            for (State state : new State[] {FULL, FULL_MARKED}) {
                refused(state, UNKNOWN, call, with(more, 1 << 16));
                refused(state, UNKNOWN, call, with(more, 1 << 16 | 1));
                refused(state, UNKNOWN, call, with(more, 1 << 30));
                refused(state, UNKNOWN, call, with(more, (1 << 17) - 1));
                refused(state, UNKNOWN, call, with(more, MAX));
            }
        });
        test(call + ": -1 also bits below 0", () -> {
            refused(ALL, UNKNOWN, call, with(more, -1));
            refused(ALL, UNKNOWN, call, with(more, MIN));
            refused(ALL, UNKNOWN, call, with(more, MIN | 1));
        });
        test(call + ": -2 not 1 to 8 NAMES, none, before -3 and -4", () -> refused(ALL, OUTSIDE, call, with(more, 0)));
        test(call + ": -2 not 1 to 8 NAMES, nine, before -3 and -4", () -> {
            refused(WITH_ROWS, OUTSIDE, call, with(more, 0x1ff));
            refused(FULL, OUTSIDE, call, with(more, 0xff80));
            refused(FULL_MARKED, OUTSIDE, call, with(more, 0xff80));
            refused(FULL, OUTSIDE, call, with(more, 0xffff));
        });
        test(call + ": -3 there are MARKS, before -4", () -> {
            refused(WITH_MARKS, NOT_SO, call, with(more, 1));
            refused(WITH_MARKS, NOT_SO, call, with(more, 0xff));
        });
        test(call + ": -4, a 13th ROW", () -> {
            refused(FULL, NO_ROOM, call, with(more, 1));
            refused(FULL, NO_ROOM, call, with(more, 0xff00));
        });
    }

    private static long[] with(long[] more, long first) {
        long[] all = new long[more.length + 1];
        all[0] = first;
        System.arraycopy(more, 0, all, 1, more.length);
        return all;
    }

    /** Promises 7 and 8. */
    private static void rowsOfTwoSets(String call, int most) {
        test(call + ": -1 (of both), before all others", () -> {
            for (long bad : new long[] {-1, MIN, MAX, 1 << 16, 1 << 16 | 2}) {
                refused(ALL, UNKNOWN, call, bad, 0);
                refused(ALL, UNKNOWN, call, 0, bad);
                refused(WITH_ROWS, UNKNOWN, call, bad, 1);
                refused(WITH_ROWS, UNKNOWN, call, 1, bad);
                refused(WITH_ROWS, UNKNOWN, call, bad, bad);
            }
            refused(EMPTY, UNKNOWN, call, 1, 2);
            refused(SMALL, UNKNOWN, call, 1, 1 << 10);
            refused(SMALL_MARKED, UNKNOWN, call, 1 << 10, 1);
        });
        test(call + ": -2 not 1 to " + most + " NAMES in each, none, before -3 and -4", () -> {
            refused(ALL, OUTSIDE, call, 0, 0);
            refused(WITH_ROWS, OUTSIDE, call, 0, 1);
            refused(WITH_ROWS, OUTSIDE, call, 1, 0);
        });
        if (most < 8) {
            test(call + ": -2 not 1 to " + most + " NAMES in each, one too many, before -3 and -4", () -> {
                refused(FULL, OUTSIDE, call, 0x3f, 0xfc0);
                refused(FULL_MARKED, OUTSIDE, call, 0x3f, 0xfc0);
                refused(FULL, OUTSIDE, call, 0xff, 0xff00);
            });
        }
        test(call + ": -2 not as many in both, before -3 and -4", () -> {
            refused(WITH_ROWS, OUTSIDE, call, 1, 6);
            refused(WITH_ROWS, OUTSIDE, call, 6, 1);
            refused(WITH_ROWS, OUTSIDE, call, 0x0f, 0x70);
            refused(WITH_ROWS, OUTSIDE, call, 0x1f, 0x1e0);
        });
        test(call + ": -2 one in both, before -3 and -4", () -> {
            refused(WITH_ROWS, OUTSIDE, call, 1, 1);
            refused(WITH_ROWS, OUTSIDE, call, 3, 6);
            refused(WITH_ROWS, OUTSIDE, call, 0x1f, 0x1f0);
            refused(WITH_ROWS, OUTSIDE, call, 0xff, 0x1fe);
            refused(FULL, OUTSIDE, call, 0x1ff, 0xff80);
        });
        test(call + ": -3 there are MARKS, before -4", () -> {
            refused(WITH_MARKS, NOT_SO, call, 1, 2);
            refused(WITH_MARKS, NOT_SO, call, 0x1f, 0x3e0);
        });
        test(call + ": -4, a 13th ROW", () -> refused(FULL, NO_ROOM, call, 1, 2));
    }

    private static void kinds() {
        rowsOfOneSet("kinds", 0, 12);
        rowsOfOneSet("kinds", 12, 12);
        test("Promise 9: -1 before a LOW and HIGH that are outside", () -> {
            refused(ALL, UNKNOWN, "kinds", -1, 2, 1);
            refused(ALL, UNKNOWN, "kinds", 1 << 16, -1, 13);
        });
        test("Promise 9: LOW and HIGH (0 .. 12), -2 before -3 and -4", () -> {
            refused(WITH_ROWS, OUTSIDE, "kinds", 3, -1, 1);
            refused(WITH_ROWS, OUTSIDE, "kinds", 3, -1, -1);
            refused(WITH_ROWS, OUTSIDE, "kinds", 3, 0, 13);
            refused(WITH_ROWS, OUTSIDE, "kinds", 3, 13, 13);
            refused(WITH_ROWS, OUTSIDE, "kinds", 3, MIN, 1);
            refused(WITH_ROWS, OUTSIDE, "kinds", 3, 0, MAX);
            refused(WITH_ROWS, OUTSIDE, "kinds", 3, MIN, MAX);
        });
        test("Promise 9: LOW not above HIGH, -2 before -3 and -4", () -> {
            refused(WITH_ROWS, OUTSIDE, "kinds", 3, 1, 0);
            refused(WITH_ROWS, OUTSIDE, "kinds", 3, 12, 11);
            refused(WITH_ROWS, OUTSIDE, "kinds", 3, MAX, MIN);
        });
    }

    private static void dear() {
        rowsOfOneSet("dear", 0);
        rowsOfOneSet("dear", -1000000);
        rowsOfOneSet("dear", 1000000);
        test("Promise 10: -1 before a MOST that is outside", () -> {
            refused(ALL, UNKNOWN, "dear", -1, 1000001);
            refused(ALL, UNKNOWN, "dear", 1 << 16, Long.MIN_VALUE);
        });
        test("Promise 10: MOST (-1000000 .. 1000000), -2 before -3 and -4", () -> {
            for (long most : new long[] {
                1000001, -1000001, MAX, MIN, 1L << 32, (1L << 32) + 5, -(1L << 32), Long.MAX_VALUE, Long.MIN_VALUE}) {
                refused(WITH_ROWS, OUTSIDE, "dear", 3, most);
            }
        });
    }

    private static void limits() {
        test("Promise 6: -1, a ROW that is not there, before all others", () -> {
            refused(ALL, UNKNOWN, "limits", -1, 0, 0, 8);
            refused(ALL, UNKNOWN, "limits", 12, 0, 0, 8);
            refused(ALL, UNKNOWN, "limits", MIN, 12, 9, 0);
            refused(ALL, UNKNOWN, "limits", MAX, -1, 9, 0);
            refused(EMPTY, UNKNOWN, "limits", 0, 0, 0, 8);
            refused(SMALL, UNKNOWN, "limits", 6, 0, 0, 8);
            refused(SMALL_MARKED, UNKNOWN, "limits", 6, 0, 0, 8);
        });
        test("Promise 6: -1, a ROW that is not COUNTED, before all others", () -> {
            for (int row : new int[] {DIFFERENT, SAME, TURNED, KINDS, DEAR}) {
                refused(WITH_ROWS, UNKNOWN, "limits", row, 0, 0, 8);
                refused(WITH_ROWS, UNKNOWN, "limits", row, 12, 0, 8);
                refused(WITH_ROWS, UNKNOWN, "limits", row, 0, 9, 8);
            }
        });
        test("Promise 6: -2, a VALUE outside, before -3", () -> {
            for (int value : new int[] {-1, 12, 13, 32, MIN, MAX}) {
                refused(WITH_ROWS, OUTSIDE, "limits", COUNTED, value, 0, 1);
            }
        });
        test("Promise 6: LOW and HIGH (0 .. 8), -2 before -3", () -> {
            for (int value : new int[] {0, 11}) {
                refused(WITH_ROWS, OUTSIDE, "limits", COUNTED, value, -1, 1);
                refused(WITH_ROWS, OUTSIDE, "limits", COUNTED, value, -1, -1);
                refused(WITH_ROWS, OUTSIDE, "limits", COUNTED, value, 0, 9);
                refused(WITH_ROWS, OUTSIDE, "limits", COUNTED, value, 9, 9);
                refused(WITH_ROWS, OUTSIDE, "limits", COUNTED, value, MIN, 8);
                refused(WITH_ROWS, OUTSIDE, "limits", COUNTED, value, 0, MAX);
            }
        });
        test("Promise 6: LOW not above HIGH, -2 before -3", () -> {
            refused(WITH_ROWS, OUTSIDE, "limits", COUNTED, 0, 1, 0);
            refused(WITH_ROWS, OUTSIDE, "limits", COUNTED, 0, 8, 7);
            refused(WITH_ROWS, OUTSIDE, "limits", COUNTED, 0, MAX, MIN);
        });
        test("Promise 6: -3 there are MARKS", () -> {
            refused(WITH_MARKS, NOT_SO, "limits", COUNTED, 0, 0, 0);
            refused(WITH_MARKS, NOT_SO, "limits", COUNTED, 11, 8, 8);
            refused(FULL_MARKED, NOT_SO, "limits", 7, 0, 0, 8);
        });
    }

    private static void cost() {
        test("Promise 11: -1, a ROW that is not there, before all others", () -> {
            for (int row : new int[] {-1, 12, MIN, MAX}) {
                refused(ALL, UNKNOWN, "cost", row, 0, 0, 1);
                refused(ALL, UNKNOWN, "cost", row, 0, 12, 1001);
            }
            refused(EMPTY, UNKNOWN, "cost", 0, 0, 0, 1);
            refused(SMALL, UNKNOWN, "cost", 6, 4, 0, 1);
        });
        test("Promise 11: -1, a ROW that is not DEAR, before all others", () -> {
            for (int row : new int[] {DIFFERENT, COUNTED, SAME, TURNED, KINDS}) {
                refused(WITH_ROWS, UNKNOWN, "cost", row, 2, 0, 1);
                refused(WITH_ROWS, UNKNOWN, "cost", row, 6, 12, 1);
            }
        });
        test("Promise 11: -1, no NAME of the ROW, before all others", () -> {
            for (int name : new int[] {0, 2, 6, 15, 16, 31, 32, 35, 36, -1, -28, MIN, MAX}) {
                refused(WITH_ROWS, UNKNOWN, "cost", DEAR, name, 0, 1);
                refused(WITH_ROWS, UNKNOWN, "cost", DEAR, name, 12, 1001);
            }
        });
        test("Promise 11: -2, a VALUE outside, before -3", () -> {
            for (int value : new int[] {-1, 12, 13, 24, MIN, MAX}) {
                refused(WITH_ROWS, OUTSIDE, "cost", DEAR, 4, value, 1);
            }
        });
        test("Promise 11: the COST (-1000 .. 1000), -2 before -3", () -> {
            for (int c : new int[] {-1001, 1001, MIN, MAX}) {
                refused(WITH_ROWS, OUTSIDE, "cost", DEAR, 3, 0, c);
                refused(WITH_ROWS, OUTSIDE, "cost", DEAR, 5, 11, c);
            }
        });
        test("Promise 11: -3 there are MARKS", () -> {
            refused(WITH_MARKS, NOT_SO, "cost", DEAR, 3, 0, 1000);
            refused(WITH_MARKS, NOT_SO, "cost", DEAR, 5, 11, -1000);
            refused(FULL_MARKED, NOT_SO, "cost", 11, 15, 11, 0);
        });
    }

    private static void domains() {
        int[] strangers = {-1, 16, 17, 32, MIN, MAX};
        test("Promise 12: -1", () -> {
            for (int name : strangers) {
                refused(ALL, UNKNOWN, "domain", name);
            }
            refused(EMPTY, UNKNOWN, "domain", 0);
            refused(SMALL, UNKNOWN, "domain", 10);
        });
        test("Promise 13: -1, before all others", () -> {
            for (int name : strangers) {
                refused(ALL, UNKNOWN, "keep", name, 1);
                refused(ALL, UNKNOWN, "keep", name, 0);
                refused(ALL, UNKNOWN, "keep", name, -1);
                refused(ALL, UNKNOWN, "keep", name, 4096);
            }
            refused(EMPTY, UNKNOWN, "keep", 0, 1);
            refused(SMALL, UNKNOWN, "keep", 10, 1);
        });
        test("Promise 13: a row of bits (0 .. 4095), -2 before -3", () -> {
            for (int values : new int[] {-1, 4096, 4097, 8191, -4096, MIN, MAX}) {
                refused(WITH_ROWS, OUTSIDE, "keep", 0, values);
            }
        });
        test("Promise 13: -3 none would be left", () -> {
            refused(WITH_ROWS, NOT_SO, "keep", 0, 0);
            refused(WITH_ROWS, NOT_SO, "keep", 0, 8);
            refused(WITH_ROWS, NOT_SO, "keep", 9, 4095 ^ 3);
            refused(SMALL_MARKED, NOT_SO, "keep", 5, 1);
        });
    }

    private static void run() {
        test("Promise 14: -3 it is BLOCKED, as a ROW has no PLAN", () -> refused(BLOCKED, NOT_SO, "run"));
        test("Promise 14: -3 it is BLOCKED, along ROWS that each have a PLAN", () -> refused(CHAIN, NOT_SO, "run"));
    }

    private static void in() {
        rowUnknown("Promise 15", "in", 0, 0);
        test("Promise 15: -1, no NAME of the ROW, before -2", () -> {
            nameUnknown("in", DIFFERENT, 0b111);
            nameUnknown("in", SAME, 0b10100);
            nameUnknown("in", TURNED, 0b1111000000);
            nameUnknown("in", DEAR, 0b111000);
        });
        test("Promise 15: -2", () -> {
            for (int value : new int[] {-1, 12, 13, 31, 32, MIN, MAX}) {
                refused(WITH_ROWS, OUTSIDE, "in", DIFFERENT, 0, value);
                refused(WITH_ROWS, OUTSIDE, "in", DEAR, 5, value);
                refused(BLOCKED, OUTSIDE, "in", DIFFERENT, 0, value);
            }
        });
    }

    private static void rowUnknown(String promise, String call, long... more) {
        test(promise + ": -1, a ROW that is not there, before all others", () -> {
            for (int row : new int[] {-1, 12, 13, MIN, MAX}) {
                refused(ALL, UNKNOWN, call, with(more, row));
            }
            refused(EMPTY, UNKNOWN, call, with(more, 0));
            refused(EMPTY_MARKED, UNKNOWN, call, with(more, 0));
            refused(SMALL, UNKNOWN, call, with(more, 6));
            refused(SMALL_MARKED, UNKNOWN, call, with(more, 6));
        });
    }

    private static void nameUnknown(String call, int row, int set) {
        for (int name : new int[] {-32, -1, 0, 2, 3, 4, 5, 6, 9, 15, 16, 31, 32, 34, MIN, MAX}) {
            boolean inIt = name >= 0 && name < 16 && (set >> name & 1) != 0;
            if (!inIt) {
                refused(WITH_ROWS, UNKNOWN, call, row, name, 0);
                refused(WITH_ROWS, UNKNOWN, call, row, name, 12);
                refused(WITH_ROWS, UNKNOWN, call, row, name, -1);
            }
        }
    }

    private static void reason() {
        rowUnknown("Promise 17", "reason", 0, 0);
        test("Promise 17: -1, a ROW that is not DIFFERENT, before all others", () -> {
            for (int row : new int[] {COUNTED, SAME, TURNED, KINDS, DEAR}) {
                refused(WITH_ROWS, UNKNOWN, "reason", row, 2, 1);
                refused(BLOCKED, UNKNOWN, "reason", row, 0, 0);
            }
        });
        test("Promise 17: -1, no NAME of the ROW, before -2", () -> nameUnknown("reason", DIFFERENT, 0b111));
        test("Promise 17: -1, no NAME of the ROW, before -3", () -> refused(BLOCKED, UNKNOWN, "reason", DIFFERENT, 2, 1));
        test("Promise 17: -2 the VALUE is not in its DOMAIN", () -> {
            for (int value : new int[] {-1, 3, 11, 12, 32, 33, MIN, MAX}) {
                refused(WITH_ROWS, OUTSIDE, "reason", DIFFERENT, 1, value);
            }
            refused(SMALL_MARKED, OUTSIDE, "reason", DIFFERENT, 0, 2);
        });
        test("Promise 17: -2 before -3 the ROW has no PLAN", () -> {
            refused(BLOCKED, OUTSIDE, "reason", DIFFERENT, 0, 1);
            refused(BLOCKED, OUTSIDE, "reason", DIFFERENT, 0, 12);
            refused(BLOCKED, OUTSIDE, "reason", DIFFERENT, 0, -1);
        });
        test("Promise 17: -3 the ROW has no PLAN", () -> {
            refused(BLOCKED, NOT_SO, "reason", DIFFERENT, 0, 0);
            refused(BLOCKED, NOT_SO, "reason", DIFFERENT, 1, 0);
        });
    }

    private static void questionsOfRows() {
        rowUnknown("Promise 18", "great");
        test("Promise 18: -1, a ROW that is not DIFFERENT", () -> {
            for (int row : new int[] {COUNTED, SAME, TURNED, KINDS, DEAR}) {
                refused(WITH_ROWS, UNKNOWN, "great", row);
                refused(BLOCKED, UNKNOWN, "great", row);
            }
        });
        rowUnknown("Promise 21", "sure");
    }

    private static void ways() {
        test("Promise 19: IllegalArgumentException, a ROW that is not there", () -> {
            for (State state : ALL) {
                for (int row : new int[] {-1, 12, 13, MIN, MAX}) {
                    refused(state, ARGUMENT, "ways", row);
                }
            }
            refused(EMPTY, ARGUMENT, "ways", 0);
            refused(SMALL, ARGUMENT, "ways", 6);
        });
        test("Promise 19: IllegalArgumentException, a ROW that is not DIFFERENT", () -> {
            for (int row : new int[] {COUNTED, SAME, TURNED, KINDS, DEAR}) {
                refused(SMALL, ARGUMENT, "ways", row);
                refused(FULL_MARKED, ARGUMENT, "ways", row);
                refused(BLOCKED, ARGUMENT, "ways", row);
            }
        });
    }

    private static void end() {
        test("Promise 20: IllegalArgumentException, a ROW that is not there", () -> {
            for (State state : ALL) {
                for (int row : new int[] {-1, 12, 13, MIN, MAX}) {
                    refused(state, ARGUMENT, "end", row, 0);
                    refused(state, ARGUMENT, "end", row, 1);
                }
            }
            refused(EMPTY, ARGUMENT, "end", 0, 0);
            refused(SMALL, ARGUMENT, "end", 6, 1);
        });
        test("Promise 20: IllegalArgumentException, a ROW that is neither KINDS nor DEAR", () -> {
            for (int row : new int[] {DIFFERENT, COUNTED, SAME, TURNED}) {
                refused(SMALL, ARGUMENT, "end", row, 0);
                refused(FULL_MARKED, ARGUMENT, "end", row, 1);
                refused(BLOCKED, ARGUMENT, "end", row, 0);
            }
        });
        test("Promise 20: IllegalArgumentException, no such what", () -> {
            for (int what : new int[] {-1, 2, 3, MIN, MAX}) {
                refused(SMALL, ARGUMENT, "end", KINDS, what);
                refused(FULL_MARKED, ARGUMENT, "end", DEAR, what);
                refused(SMALL, ARGUMENT, "end", DIFFERENT, what);
            }
        });
        test("Promise 20: IllegalStateException: two must have one VALUE (of DEAR)", () -> {
            refused(BLOCKED, STATE, "end", DEAR, 0);
            refused(BLOCKED, STATE, "end", DEAR, 1);
        });
        test("Promise 20: IllegalArgumentException before IllegalStateException", () -> {
            refused(BLOCKED, ARGUMENT, "end", DEAR, -1);
            refused(BLOCKED, ARGUMENT, "end", DEAR, 2);
        });
    }

    private static void marks() {
        test("Promise 22: -4 there are 20", () -> refused(FULL_MARKED, NO_ROOM, "mark"));
        test("Promise 23: -1", () -> {
            for (int m : new int[] {0, -1, 21, 22, MIN, MAX}) {
                refused(ALL, UNKNOWN, "back", m);
            }
            refused(EMPTY, UNKNOWN, "back", 1);
            refused(EMPTY_MARKED, UNKNOWN, "back", 2);
            refused(SMALL, UNKNOWN, "back", 1);
            refused(SMALL_MARKED, UNKNOWN, "back", 3);
        });
    }

    private static void plans() {
        test("Promise 24: -4 the product is above 20000", () -> {
            refused(FULL, NO_ROOM, "plans");
            refused(FULL_MARKED, NO_ROOM, "plans");
        });
        test("Promise 25: -1, before -4 and -2", () -> {
            for (int name : new int[] {-1, 16, 17, 32, MIN, MAX}) {
                refused(ALL, UNKNOWN, "plan", 0, name);
                refused(ALL, UNKNOWN, "plan", -1, name);
                refused(ALL, UNKNOWN, "plan", MAX, name);
            }
            refused(EMPTY, UNKNOWN, "plan", 0, 0);
            refused(SMALL, UNKNOWN, "plan", 0, 10);
        });
        test("Promise 25: -4 as of plans(), before -2", () -> {
            for (int k : new int[] {0, -1, 20000, MIN, MAX}) {
                refused(FULL, NO_ROOM, "plan", k, 0);
                refused(FULL_MARKED, NO_ROOM, "plan", k, 15);
            }
        });
        test("Promise 25: -2 there is no such", () -> {
            int last = small().plans() - 1;
            for (int k : new int[] {-1, last + 1, last + 2, 20000, MIN, MAX}) {
                refused(SMALL, OUTSIDE, "plan", k, 0);
                refused(SMALL, OUTSIDE, "plan", k, 9);
            }
            refused(BLOCKED, OUTSIDE, "plan", 0, 0);
        });
    }

    private static void told() {
        test("Promise 26: -2", () -> {
            for (int what : new int[] {-1, 5, 6, MIN, MAX}) {
                refused(ALL, OUTSIDE, "told", what);
            }
        });
    }

    /** Any arguments in any state: only ways and end throw, and only what the document names. */
    private static void nothingElseIsThrown() {
        long[] arguments = {MIN, MIN + 1, -4096, -32, -1, 0, 1, 3, 5, 8, 11, 12, 15, 16, 31, 32, 255, 4095, 4096, 0xff00, 65535, 65536, MAX};
        String[] calls = {"name 1", "different 1", "counted 1", "limits 4", "same 2", "turned 2", "kinds 3", "dear 2", "cost 4",
            "domain 1", "keep 2", "in 3", "reason 3", "great 1", "ways 1", "end 2", "sure 1", "back 1", "plan 2", "told 1"};
        test("Codes: whatever the arguments are", () -> {
            for (State state : ALL) {
                for (String call : calls) {
                    String[] parts = call.split(" ");
                    throwsNothing(state, parts[0], new long[Integer.parseInt(parts[1])], 0, arguments);
                }
            }
        });
    }

    private static void throwsNothing(State state, String call, long[] a, int at, long[] arguments) {
        if (at == a.length) {
            String got = answer(WildObjects.of(state), call, a);
            boolean mayThrow = call.equals("ways") || call.equals("end");
            boolean fine = !got.startsWith("throws") || mayThrow && (got.equals(ARGUMENT) || got.equals(STATE));
            wild++;
            if (!fine) {
                fault(state, call + Arrays.toString(a) + " answered " + got);
            }
            return;
        }
        for (int i = 0; i < arguments.length; i += a.length > 3 ? 2 : 1) {
            a[at] = arguments[i];
            throwsNothing(state, call, a, at + 1, arguments);
        }
    }

    /** The same object for some calls, then a new one, so that none has more than 512. */
    private static final class WildObjects {
        private static State last;
        private static DifferentValues object;
        private static int calls;

        static DifferentValues of(State state) {
            if (state != last || calls >= 300) {
                last = state;
                object = state.make.get();
                calls = 0;
            }
            calls++;
            return object;
        }
    }
}
