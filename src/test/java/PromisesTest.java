/** For each promise of the document: ordinary calls, the edges that it names, and wrong calls, worked out by hand. */
public final class PromisesTest {
    private static int wrong = 0;
    private static int asked = 0;
    private static String part = "";

    public static void main(String[] args) {
        promise1NewObject();
        promise2Clear();
        promise3Name();
        promise4Different();
        promise5Counted();
        promise6Limits();
        promise7Same();
        promise8Turned();
        promise9Kinds();
        promise10Dear();
        promise11Cost();
        promise12Domain();
        promise13Keep();
        promise14Run();
        promise15In();
        promise16Blocked();
        promise17Reason();
        promise18Great();
        promise19Ways();
        promise20End();
        promise21Sure();
        promise22Mark();
        promise23Back();
        promise24Plans();
        promise25Plan();
        promise26Told();
        allSortsTogether();
        readme();
        System.out.println(wrong == 0 ? asked + " answers are as due" : wrong + " of " + asked + " answers are not as due");
        if (wrong != 0) {
            System.exit(1);
        }
    }

    private static void due(String call, long got, long want) {
        asked++;
        if (got != want) {
            wrong++;
            System.out.println(part + ": " + call + " answered " + got + ", due is " + want);
        }
    }

    private static void due(String call, String got, String want) {
        asked++;
        if (!got.equals(want)) {
            wrong++;
            System.out.println(part + ": " + call + " answered " + got + ", due is " + want);
        }
    }

    private static DifferentValues withNames(int... domains) {
        DifferentValues x = new DifferentValues();
        for (int i = 0; i < domains.length; i++) {
            due("name(" + domains[i] + ")", x.name(domains[i]), i);
        }
        return x;
    }

    private static DifferentValues sixteen(int domain) {
        int[] domains = new int[16];
        java.util.Arrays.fill(domains, domain);
        return withNames(domains);
    }

    private static String ways(DifferentValues x, int row) {
        try {
            return String.valueOf(x.ways(row));
        } catch (RuntimeException e) {
            return "throws." + e.getClass().getSimpleName();
        }
    }

    private static String end(DifferentValues x, int row, int what) {
        try {
            return String.valueOf(x.end(row, what));
        } catch (RuntimeException e) {
            return "throws." + e.getClass().getSimpleName();
        }
    }

    private static void dueDomains(DifferentValues x, int... want) {
        for (int n = 0; n < want.length; n++) {
            due("domain(" + n + ")", x.domain(n), want[n]);
        }
    }

    private static void promise1NewObject() {
        part = "promise 1";
        DifferentValues x = new DifferentValues();
        for (int what = 0; what <= 4; what++) {
            due("told(" + what + ")", x.told(what), 0);
        }
        due("domain(0)", x.domain(0), -1);
        due("in(0, 0, 0)", x.in(0, 0, 0), -1);
        due("sure(0)", x.sure(0), -1);
        due("great(0)", x.great(0), -1);
        due("back(1)", x.back(1), -1);
        due("run()", x.run(), 0);
        due("blocked()", x.blocked(), DifferentValues.NONE);
        due("NONE", DifferentValues.NONE, -1);
        DifferentValues y = withNames(1);
        due("another object's told(0)", x.told(0), 0);
        due("told(0)", y.told(0), 1);
    }

    private static void promise2Clear() {
        part = "promise 2";
        DifferentValues x = withNames(3, 3);
        x.counted(3);
        x.limits(0, 0, 2, 2);
        x.dear(3, 5);
        x.cost(1, 0, 0, 77);
        x.mark();
        x.keep(0, 1);
        due("plans()", x.plans(), 0);
        x.clear();
        for (int what = 0; what <= 4; what++) {
            due("told(" + what + ") after clear", x.told(what), 0);
        }
        due("plans() after clear", x.plans(), 1);
        due("back(1) after clear", x.back(1), -1);
        due("blocked() after clear", x.blocked(), -1);
        due("domain(0) after clear", x.domain(0), -1);
        due("counted(1) after clear", x.counted(1), -1);
        due("name(3)", x.name(3), 0);
        due("name(12)", x.name(12), 1);
        due("counted(3)", x.counted(3), 0);
        due("limits of a new row", x.limits(0, 0, 0, 8), 8);
        due("dear(3, 5)", x.dear(3, 5), 1);
        due("cost of a new row", x.cost(1, 0, 0, 0), 1000);
        due("plans()", x.plans(), 4);
    }

    private static void promise3Name() {
        part = "promise 3";
        DifferentValues x = new DifferentValues();
        due("name(0)", x.name(0), -2);
        due("name(-1)", x.name(-1), -2);
        due("name(4096)", x.name(4096), -2);
        due("name(min)", x.name(Integer.MIN_VALUE), -2);
        due("name(max)", x.name(Integer.MAX_VALUE), -2);
        due("name(1)", x.name(1), 0);
        due("name(4095)", x.name(4095), 1);
        dueDomains(x, 1, 4095);
        x.mark();
        due("name(1) with a mark", x.name(1), -3);
        due("name(0) with a mark", x.name(0), -2);
        due("told(0)", x.told(0), 2);
        x.back(1);
        for (int i = 2; i < 16; i++) {
            due("name(" + i + ")", x.name(i), i);
        }
        due("name 17", x.name(1), -4);
        due("name(0) without room", x.name(0), -2);
        x.mark();
        due("name 17 with a mark", x.name(1), -3);
        due("told(0)", x.told(0), 16);
    }

    private static void promise4Different() {
        part = "promise 4";
        DifferentValues x = sixteen(4095);
        due("different(1 << 16)", x.different(1 << 16), -1);
        due("different(-1)", x.different(-1), -1);
        due("different(min)", x.different(Integer.MIN_VALUE), -1);
        due("different(0)", x.different(0), -2);
        due("different(511)", x.different(511), -2);
        due("different(65535)", x.different(65535), -2);
        due("different(255)", x.different(255), 0);
        due("different(65280)", x.different(65280), 1);
        due("told(1)", x.told(1), 2);
        x.mark();
        due("different(1) with a mark", x.different(1), -3);
        due("different(0) with a mark", x.different(0), -2);
        due("different(65536) with a mark", x.different(65536), -1);
        x.back(1);
        for (int i = 2; i < 12; i++) {
            due("different(3)", x.different(3), i);
        }
        due("row 13", x.different(3), -4);
        due("sure(12)", x.sure(12), -1);
        due("counted, row 13", x.counted(3), -4);
        due("same, row 13", x.same(1, 2), -4);
        due("turned, row 13", x.turned(1, 2), -4);
        due("kinds, row 13", x.kinds(3, 0, 1), -4);
        due("dear, row 13", x.dear(3, 0), -4);
        x.mark();
        due("row 13 with a mark", x.different(3), -3);
        DifferentValues y = withNames(3, 3);
        due("different(4) of two names", y.different(4), -1);
        due("different(3)", y.different(3), 0);
        due("plans()", y.plans(), 2);
        due("in(0, 0, 0)", y.in(0, 0, 0), 1);
        y.keep(1, 1);
        due("in(0, 0, 0)", y.in(0, 0, 0), 0);
    }

    private static void promise5Counted() {
        part = "promise 5";
        DifferentValues x = sixteen(7);
        due("counted(65536)", x.counted(65536), -1);
        due("counted(-1)", x.counted(-1), -1);
        due("counted(0)", x.counted(0), -2);
        due("counted(511)", x.counted(511), -2);
        due("counted(255)", x.counted(255), 0);
        due("sure(0)", x.sure(0), 1);
        x.mark();
        due("counted(1) with a mark", x.counted(1), -3);
        x.back(1);
        DifferentValues y = withNames(3, 3, 3);
        due("counted(7)", y.counted(7), 0);
        due("plans()", y.plans(), 8);
        y.limits(0, 0, 1, 2);
        due("plans() with one or two of 0", y.plans(), 6);
        y.limits(0, 1, 2, 2);
        due("plans() with two of 1", y.plans(), 3);
        y.limits(0, 5, 1, 8);
        due("blocked() by a value that none can have", y.blocked(), 0);
        due("plans()", y.plans(), 0);
    }

    private static void promise6Limits() {
        part = "promise 6";
        DifferentValues x = withNames(3, 3);
        x.counted(3);
        x.different(3);
        due("limits(-1, 0, 0, 0)", x.limits(-1, 0, 0, 0), -1);
        due("limits(2, 0, 0, 0)", x.limits(2, 0, 0, 0), -1);
        due("limits of different", x.limits(1, 0, 0, 0), -1);
        due("limits of no row and no value", x.limits(1, 99, 9, 0), -1);
        due("limits(0, -1, 0, 0)", x.limits(0, -1, 0, 0), -2);
        due("limits(0, 12, 0, 0)", x.limits(0, 12, 0, 0), -2);
        due("limits(0, 0, -1, 0)", x.limits(0, 0, -1, 0), -2);
        due("limits(0, 0, 0, 9)", x.limits(0, 0, 0, 9), -2);
        due("limits(0, 0, 9, 9)", x.limits(0, 0, 9, 9), -2);
        due("limits(0, 0, 2, 1)", x.limits(0, 0, 2, 1), -2);
        due("limits(0, 0, min, max)", x.limits(0, 0, Integer.MIN_VALUE, Integer.MAX_VALUE), -2);
        due("limits(0, 0, 8, 8)", x.limits(0, 0, 8, 8), 8);
        due("limits(0, 0, 1, 3)", x.limits(0, 0, 1, 3), 16 * 8 + 8);
        due("limits(0, 0, 0, 0)", x.limits(0, 0, 0, 0), 16 + 3);
        due("limits(0, 11, 0, 0)", x.limits(0, 11, 0, 0), 8);
        x.mark();
        due("limits with a mark", x.limits(0, 0, 1, 1), -3);
        due("limits out of range with a mark", x.limits(0, 0, 1, 9), -2);
        x.back(1);
        due("limits after it", x.limits(0, 0, 0, 8), 0);
    }

    private static void promise7Same() {
        part = "promise 7";
        DifferentValues x = sixteen(3);
        due("same(-1, 1)", x.same(-1, 1), -1);
        due("same(1, -1)", x.same(1, -1), -1);
        due("same(1, 65536)", x.same(1, 65536), -1);
        due("same(0, 65536)", x.same(0, 65536), -1);
        due("same(0, 0)", x.same(0, 0), -2);
        due("same(0, 1)", x.same(0, 1), -2);
        due("same(1, 1)", x.same(1, 1), -2);
        due("same(3, 6)", x.same(3, 6), -2);
        due("same(3, 4)", x.same(3, 4), -2);
        due("same(63, 4032)", x.same(63, 4032), -2);
        due("same(31, 992)", x.same(31, 992), 0);
        x.mark();
        due("same(1, 2) with a mark", x.same(1, 2), -3);
        due("same(1, 1) with a mark", x.same(1, 1), -2);
        DifferentValues y = withNames(3, 5, 6, 9);
        due("same(3, 12)", y.same(3, 12), 0);
        // Name 2 must meet name 0 in 1 or name 1 in 2, name 3 the other in 0.
        due("in(0, 3, 3)", y.in(0, 3, 3), 0);
        due("in(0, 3, 0)", y.in(0, 3, 0), 1);
        due("in(0, 0, 0)", y.in(0, 0, 0), 1);
        due("in(0, 1, 2)", y.in(0, 1, 2), 1);
        due("plans()", y.plans(), 2);
        due("plan(0, 2)", y.plan(0, 2), 2);
        due("plan(1, 2)", y.plan(1, 2), 1);
    }

    private static void promise8Turned() {
        part = "promise 8";
        DifferentValues x = sixteen(255);
        due("turned(-1, 1)", x.turned(-1, 1), -1);
        due("turned(1, 65536)", x.turned(1, 65536), -1);
        due("turned(0, 0)", x.turned(0, 0), -2);
        due("turned(3, 6)", x.turned(3, 6), -2);
        due("turned(3, 4)", x.turned(3, 4), -2);
        due("turned(511, 65024)", x.turned(511, 65024), -2);
        due("turned(255, 65280)", x.turned(255, 65280), 0);
        due("blocked()", x.blocked(), -1);
        due("told(4)", x.told(4), 0);
        x.mark();
        due("turned(1, 2) with a mark", x.turned(1, 2), -3);
        // Names 0, 2 and 4 are numbers 0, 1, 2 of a; names 1, 3 and 5 of b.
        DifferentValues y = withNames(15, 15, 15, 15, 15, 15);
        due("turned(21, 42)", y.turned(21, 42), 0);
        due("in(0, 0, 3)", y.in(0, 0, 3), 0);
        due("plans()", y.plans(), 6);
        due("run()", y.run(), 6);
        due("keep(0, 2)", y.keep(0, 2), 2);
        due("run()", y.run(), 2 + 2 + 2);
        dueDomains(y, 2, 6, 5, 1, 5, 6);
        due("plans()", y.plans(), 2);
        due("plan(0, 1)", y.plan(0, 1), 1);
        due("plan(0, 2)", y.plan(0, 2), 0);
        due("plan(1, 5)", y.plan(1, 5), 1);
        DifferentValues z = withNames(2, 2);
        due("turned(1, 2)", z.turned(1, 2), 0);
        due("blocked() as 1 is not below 1", z.blocked(), 0);
    }

    private static void promise9Kinds() {
        part = "promise 9";
        DifferentValues x = sixteen(7);
        due("kinds(65536, 0, 1)", x.kinds(65536, 0, 1), -1);
        due("kinds(-1, 5, 1)", x.kinds(-1, 5, 1), -1);
        due("kinds(0, 0, 1)", x.kinds(0, 0, 1), -2);
        due("kinds(511, 0, 1)", x.kinds(511, 0, 1), -2);
        due("kinds(1, -1, 1)", x.kinds(1, -1, 1), -2);
        due("kinds(1, 0, 13)", x.kinds(1, 0, 13), -2);
        due("kinds(1, 2, 1)", x.kinds(1, 2, 1), -2);
        due("kinds(255, 0, 12)", x.kinds(255, 0, 12), 0);
        due("kinds(255, 0, 0)", x.kinds(255, 0, 0), 1);
        due("kinds(255, 12, 12)", x.kinds(255, 12, 12), 2);
        due("blocked()", x.blocked(), 1);
        x.mark();
        due("kinds(1, 0, 1) with a mark", x.kinds(1, 0, 1), -3);
        due("kinds(1, 1, 0) with a mark", x.kinds(1, 1, 0), -2);
        DifferentValues y = withNames(3, 6, 12);
        due("kinds(7, 1, 2)", y.kinds(7, 1, 2), 0);
        due("kinds(7, 3, 3)", y.kinds(7, 3, 3), 1);
        due("told(4)", y.told(4), 0);
        due("plans()", y.plans(), 0);
        DifferentValues z = withNames(3, 6, 4);
        due("kinds(7, 2, 2)", z.kinds(7, 2, 2), 0);
        due("kinds(7, 3, 3)", z.kinds(7, 3, 3), 1);
        due("in(1, 1, 2)", z.in(1, 1, 2), 0);
        due("in(1, 0, 1)", z.in(1, 0, 1), 0);
        due("in(0, 0, 0)", z.in(0, 0, 0), 1);
        due("in(0, 1, 1)", z.in(0, 1, 1), 1);
        DifferentValues few = withNames(3, 5, 9, 48);
        due("plans()", few.plans(), 16);
        due("kinds(15, 0, 2)", few.kinds(15, 0, 2), 0);
        due("plans()", few.plans(), 2);
        due("run()", few.run(), 3);
        dueDomains(few, 1, 1, 1, 48);
        DifferentValues two = withNames(7, 7, 7);
        two.kinds(7, 2, 2);
        due("plans() of two kinds", two.plans(), 18);
        two.kinds(7, 3, 3);
        due("plans() of two and of three kinds", two.plans(), 0);
    }

    private static void promise10Dear() {
        part = "promise 10";
        DifferentValues x = sixteen(7);
        due("dear(65536, 0)", x.dear(65536, 0), -1);
        due("dear(-1, 2000000)", x.dear(-1, 2000000), -1);
        due("dear(0, 0)", x.dear(0, 0), -2);
        due("dear(511, 0)", x.dear(511, 0), -2);
        due("dear(1, 1000001)", x.dear(1, 1000001), -2);
        due("dear(1, -1000001)", x.dear(1, -1000001), -2);
        due("dear(1, 2 to the 32)", x.dear(1, 1L << 32), -2);
        due("dear(1, min)", x.dear(1, Long.MIN_VALUE), -2);
        due("dear(1, 1000000)", x.dear(1, 1000000), 0);
        due("dear(1, -1000000)", x.dear(1, -1000000), 1);
        due("blocked()", x.blocked(), 1);
        x.mark();
        due("dear(1, 0) with a mark", x.dear(1, 0), -3);
        DifferentValues y = withNames(3, 3);
        due("dear(3, 0)", y.dear(3, 0), 0);
        due("plans()", y.plans(), 2);
        y.cost(0, 0, 0, 1);
        due("plans()", y.plans(), 1);
        due("plan(0, 0)", y.plan(0, 0), 1);
        due("in(0, 0, 0)", y.in(0, 0, 0), 0);
        y.cost(0, 1, 1, -1);
        due("in(0, 0, 0)", y.in(0, 0, 0), 1);
        DifferentValues rich = withNames(1, 3);
        due("dear(3, 1000000)", rich.dear(3, 1000000), 0);
        due("in(0, 1, 0) of two that would have one value", rich.in(0, 1, 0), 0);
        due("in(0, 1, 1)", rich.in(0, 1, 1), 1);
        rich.keep(1, 1);
        due("blocked() of two with one value", rich.blocked(), 0);
        due("in(0, 0, 0)", rich.in(0, 0, 0), 0);
    }

    private static void promise11Cost() {
        part = "promise 11";
        DifferentValues x = withNames(3, 3, 3);
        x.different(7);
        x.dear(5, 0);
        due("cost(0, 0, 0, 0) of different", x.cost(0, 0, 0, 0), -1);
        due("cost(2, 0, 0, 0)", x.cost(2, 0, 0, 0), -1);
        due("cost(-1, 0, 0, 0)", x.cost(-1, 0, 0, 0), -1);
        due("cost(1, 1, 0, 0) of a name of another row", x.cost(1, 1, 0, 0), -1);
        due("cost(1, -1, 0, 0)", x.cost(1, -1, 0, 0), -1);
        due("cost(1, 32, 0, 0)", x.cost(1, 32, 0, 0), -1);
        due("cost(1, 1, 99, 0)", x.cost(1, 1, 99, 0), -1);
        due("cost(1, 0, -1, 0)", x.cost(1, 0, -1, 0), -2);
        due("cost(1, 0, 12, 0)", x.cost(1, 0, 12, 0), -2);
        due("cost(1, 0, 0, 1001)", x.cost(1, 0, 0, 1001), -2);
        due("cost(1, 0, 0, -1001)", x.cost(1, 0, 0, -1001), -2);
        due("cost(1, 2, 11, 1000)", x.cost(1, 2, 11, 1000), 1000);
        due("cost(1, 2, 11, -1000)", x.cost(1, 2, 11, -1000), 2000);
        due("cost(1, 2, 11, 5)", x.cost(1, 2, 11, 5), 0);
        due("cost(1, 0, 11, 7)", x.cost(1, 0, 11, 7), 1000);
        x.mark();
        due("cost with a mark", x.cost(1, 2, 11, 0), -3);
        due("cost out of range with a mark", x.cost(1, 2, 12, 0), -2);
        x.back(1);
        due("cost after it", x.cost(1, 2, 11, 0), 1005);
    }

    private static void promise12Domain() {
        part = "promise 12";
        DifferentValues x = withNames(4095, 5);
        dueDomains(x, 4095, 5, -1);
        due("domain(-1)", x.domain(-1), -1);
        due("domain(16)", x.domain(16), -1);
        due("domain(max)", x.domain(Integer.MAX_VALUE), -1);
    }

    private static void promise13Keep() {
        part = "promise 13";
        DifferentValues x = withNames(15, 6);
        due("keep(2, 99999)", x.keep(2, 99999), -1);
        due("keep(-1, 0)", x.keep(-1, 0), -1);
        due("keep(0, -1)", x.keep(0, -1), -2);
        due("keep(0, 4096)", x.keep(0, 4096), -2);
        due("keep(0, 0)", x.keep(0, 0), -3);
        due("keep(1, 9)", x.keep(1, 9), -3);
        dueDomains(x, 15, 6);
        due("keep(0, 4095)", x.keep(0, 4095), 0);
        due("keep(0, 4086)", x.keep(0, 4086), 2);
        due("domain(0)", x.domain(0), 6);
        x.mark();
        due("keep(1, 2) with a mark", x.keep(1, 2), 1);
        due("domain(1)", x.domain(1), 2);
    }

    private static void promise14Run() {
        part = "promise 14";
        DifferentValues x = withNames(1, 3, 6, 12, 24);
        x.different(3);
        x.different(6);
        x.different(12);
        x.different(24);
        due("run() along a chain", x.run(), 4);
        dueDomains(x, 1, 2, 4, 8, 16);
        due("run() again", x.run(), 0);
        DifferentValues y = withNames(1, 3, 6, 4);
        y.different(3);
        y.different(6);
        y.different(12);
        due("run() that is blocked at the end of a chain", y.run(), -3);
        dueDomains(y, 1, 3, 6, 4);
        DifferentValues late = withNames(1, 3, 2);
        late.different(3);
        due("run()", late.run(), 1);
        late.different(6);
        due("run() that is blocked", late.run(), -3);
        dueDomains(late, 1, 2, 2);
        DifferentValues free = withNames(4095);
        due("run() without rows", free.run(), 0);
        due("domain(0)", free.domain(0), 4095);
        // No full plan, but each row by itself takes nothing away.
        DifferentValues triangle = withNames(3, 3, 3);
        triangle.different(3);
        triangle.different(6);
        triangle.different(5);
        due("run()", triangle.run(), 0);
        due("plans()", triangle.plans(), 0);
    }

    private static void promise15In() {
        part = "promise 15";
        DifferentValues x = withNames(3, 3, 7, 8);
        x.different(7);
        due("in(-1, 0, 0)", x.in(-1, 0, 0), -1);
        due("in(1, 0, 0)", x.in(1, 0, 0), -1);
        due("in(0, 3, 3) of a name of no row", x.in(0, 3, 3), -1);
        due("in(0, -1, 0)", x.in(0, -1, 0), -1);
        due("in(0, 32, 0)", x.in(0, 32, 0), -1);
        due("in(0, 3, 12)", x.in(0, 3, 12), -1);
        due("in(0, 0, -1)", x.in(0, 0, -1), -2);
        due("in(0, 0, 12)", x.in(0, 0, 12), -2);
        due("in(0, 2, 0)", x.in(0, 2, 0), 0);
        due("in(0, 2, 2)", x.in(0, 2, 2), 1);
        due("in(0, 0, 2)", x.in(0, 0, 2), 0);
        due("in(0, 0, 1)", x.in(0, 0, 1), 1);
        dueDomains(x, 3, 3, 7, 8);
        x.keep(0, 2);
        due("in(0, 1, 1)", x.in(0, 1, 1), 0);
    }

    private static void promise16Blocked() {
        part = "promise 16";
        DifferentValues x = withNames(1, 1, 3);
        due("blocked()", x.blocked(), -1);
        x.different(5);
        due("blocked()", x.blocked(), -1);
        x.different(3);
        x.different(7);
        due("blocked()", x.blocked(), 1);
        x.clear();
        // The rest is blocked here, but each row has plans by the domains as they are.
        x.name(1);
        x.name(3);
        x.name(2);
        x.different(3);
        x.different(6);
        due("run()", x.run(), -3);
        due("blocked()", x.blocked(), -1);
    }

    private static void promise17Reason() {
        part = "promise 17";
        DifferentValues x = withNames(3, 3, 12, 12, 31, 63, 7);
        x.different(63);
        x.counted(63);
        due("reason(-1, 0, 0)", x.reason(-1, 0, 0), -1);
        due("reason(2, 0, 0)", x.reason(2, 0, 0), -1);
        due("reason of counted", x.reason(1, 0, 0), -1);
        due("reason of a name of no row", x.reason(0, 6, 0), -1);
        due("reason(0, 32, 0)", x.reason(0, 32, 0), -1);
        due("reason(0, 0, 2)", x.reason(0, 0, 2), -2);
        due("reason(0, 0, -1)", x.reason(0, 0, -1), -2);
        due("reason(0, 0, 12)", x.reason(0, 0, 12), -2);
        due("reason(0, 0, 32)", x.reason(0, 0, 32), -2);
        due("reason(0, 0, 0)", x.reason(0, 0, 0), 0);
        due("reason(0, 4, 0)", x.reason(0, 4, 0), 3);
        due("reason(0, 4, 3)", x.reason(0, 4, 3), 12);
        due("reason(0, 4, 4)", x.reason(0, 4, 4), 0);
        // Tight without name 5: the first two, the next two, all four, and these with name 4.
        due("reason(0, 5, 4)", x.reason(0, 5, 4), 31);
        due("reason(0, 5, 1)", x.reason(0, 5, 1), 3);
        due("reason(0, 5, 5)", x.reason(0, 5, 5), 0);
        x.keep(2, 4);
        due("reason(0, 3, 2)", x.reason(0, 3, 2), 4);
        x.keep(3, 4);
        due("reason of a row without a plan", x.reason(0, 4, 0), -3);
        due("reason of a value not in it, without a plan", x.reason(0, 0, 5), -2);
    }

    private static void promise18Great() {
        part = "promise 18";
        DifferentValues x = withNames(3, 3, 3, 7, 24, 8, 8, 1024);
        x.different(15);
        x.different(112);
        x.different(255);
        x.counted(15);
        due("great(-1)", x.great(-1), -1);
        due("great(4)", x.great(4), -1);
        due("great of counted", x.great(3), -1);
        due("great(0)", x.great(0), 7);
        due("great(1)", x.great(1), 96);
        due("great(2)", x.great(2), 7 + 96);
        x.keep(3, 3);
        due("great(0)", x.great(0), 15);
        DifferentValues y = withNames(1, 2, 4);
        y.different(7);
        due("great of a row with a plan", y.great(0), 0);
    }

    private static void promise19Ways() {
        part = "promise 19";
        DifferentValues x = sixteen(4095);
        x.different(255);
        x.different(1);
        x.counted(3);
        x.dear(3, 0);
        due("ways(0)", ways(x, 0), "19958400");
        due("ways(1)", ways(x, 1), "12");
        due("ways of counted", ways(x, 2), "throws.IllegalArgumentException");
        due("ways of dear", ways(x, 3), "throws.IllegalArgumentException");
        due("ways(-1)", ways(x, -1), "throws.IllegalArgumentException");
        due("ways(4)", ways(x, 4), "throws.IllegalArgumentException");
        x.keep(0, 1);
        due("ways(0)", ways(x, 0), "1663200");
        x.keep(1, 1);
        due("ways(0) of two with one value", ways(x, 0), "0");
    }

    private static void promise20End() {
        part = "promise 20";
        DifferentValues x = withNames(3, 6, 12, 8, 48);
        x.kinds(31, 0, 0);
        x.dear(7, -1000000);
        x.different(3);
        due("end(0, 0)", end(x, 0, 0), "3");
        due("end(0, 1)", end(x, 0, 1), "5");
        due("end(0, 2)", end(x, 0, 2), "throws.IllegalArgumentException");
        due("end(0, -1)", end(x, 0, -1), "throws.IllegalArgumentException");
        due("end(-1, 0)", end(x, -1, 0), "throws.IllegalArgumentException");
        due("end(3, 0)", end(x, 3, 0), "throws.IllegalArgumentException");
        due("end of different", end(x, 2, 0), "throws.IllegalArgumentException");
        due("end(1, 0)", end(x, 1, 0), "0");
        due("end(1, 1)", end(x, 1, 1), "0");
        x.cost(1, 0, 1, -10);
        x.cost(1, 1, 1, -15);
        x.cost(1, 1, 2, 4);
        x.cost(1, 2, 2, -3);
        x.cost(1, 2, 3, 6);
        // Plans of 0, 1, 2 with their sums: 012 -18, 013 -9, 023 10, 123 0.
        due("end(1, 0)", end(x, 1, 0), "-18");
        due("end(1, 1)", end(x, 1, 1), "10");
        x.keep(0, 2);
        due("end(1, 0)", end(x, 1, 0), "0");
        x.keep(1, 2);
        due("end of two with one value", end(x, 1, 0), "throws.IllegalStateException");
        due("end of two with one value, and no such end", end(x, 1, 2), "throws.IllegalArgumentException");
        due("end(0, 0)", end(x, 0, 0), "3");
        due("end(0, 1)", end(x, 0, 1), "4");
    }

    private static void promise21Sure() {
        part = "promise 21";
        DifferentValues x = withNames(3, 12, 2, 2, 1, 2, 4);
        due("sure(0) of no row", x.sure(0), -1);
        x.different(3);
        x.different(5);
        x.counted(31);
        due("sure(-1)", x.sure(-1), -1);
        due("sure(3)", x.sure(3), -1);
        due("sure(0)", x.sure(0), 1);
        due("sure(1)", x.sure(1), 0);
        due("sure(2)", x.sure(2), 1);
        x.limits(2, 1, 2, 3);
        due("sure(2) with two or three of 1", x.sure(2), 1);
        x.limits(2, 1, 3, 3);
        due("sure(2) with three of 1", x.sure(2), 0);
        x.limits(2, 1, 0, 2);
        due("sure(2) with two of 1 at most", x.sure(2), 0);
        due("same(4, 8)", x.same(4, 8), 3);
        due("sure(3)", x.sure(3), 1);
        due("same(1, 2)", x.same(1, 2), 4);
        due("sure(4)", x.sure(4), 0);
        due("same(1, 8)", x.same(1, 8), 5);
        due("sure(5)", x.sure(5), 0);
        due("same(16, 8)", x.same(16, 8), 6);
        due("sure(6)", x.sure(6), 0);
        due("kinds(19, 2, 3)", x.kinds(19, 2, 3), 7);
        due("sure(7)", x.sure(7), 1);
        due("kinds(19, 3, 3)", x.kinds(19, 3, 3), 8);
        due("sure(8)", x.sure(8), 0);
        due("kinds(19, 2, 2)", x.kinds(19, 2, 2), 9);
        due("sure(9)", x.sure(9), 0);
        due("dear(3, 5)", x.dear(3, 5), 10);
        due("sure(10)", x.sure(10), 1);
        x.cost(10, 0, 1, 2);
        x.cost(10, 1, 3, 3);
        due("sure(10) with 5 of 5", x.sure(10), 1);
        x.cost(10, 0, 0, 3);
        due("sure(10) with 6 of 5", x.sure(10), 0);
        x.cost(10, 0, 0, 0);
        x.cost(10, 0, 11, 999);
        due("sure(10) with a cost of no value in the domain", x.sure(10), 1);
        due("dear(5, 1000000)", x.dear(5, 1000000), 11);
        due("sure(11)", x.sure(11), 0);
        DifferentValues y = withNames(2, 1, 1, 2);
        y.turned(6, 9);
        y.turned(3, 12);
        due("sure of turned, 00 and 11", y.sure(0), 0);
        due("sure of turned, 10 and 01", y.sure(1), 0);
        y.turned(5, 10);
        due("sure of turned, 10 and 01", y.sure(2), 0);
        y.turned(9, 6);
        due("sure of turned, 11 and 00", y.sure(3), 0);
        y.clear();
        y.name(2);
        y.name(1);
        y.name(2);
        y.name(1);
        y.turned(3, 12);
        due("sure of turned, 10 and 10", y.sure(0), 1);
    }

    private static void promise22Mark() {
        part = "promise 22";
        DifferentValues x = new DifferentValues();
        for (int i = 1; i <= 20; i++) {
            due("mark()", x.mark(), i);
        }
        due("mark 21", x.mark(), -4);
        due("told(2)", x.told(2), 20);
        due("back(20)", x.back(20), 0);
        due("mark()", x.mark(), 20);
    }

    private static void promise23Back() {
        part = "promise 23";
        DifferentValues x = withNames(15, 3, 3);
        x.different(7);
        due("back(0)", x.back(0), -1);
        due("back(1)", x.back(1), -1);
        x.mark();
        due("run()", x.run(), 2);
        x.mark();
        x.keep(0, 4);
        x.mark();
        due("back(4)", x.back(4), -1);
        due("back(0)", x.back(0), -1);
        due("back(-1)", x.back(-1), -1);
        due("back(min)", x.back(Integer.MIN_VALUE), -1);
        due("told(2)", x.told(2), 3);
        due("back(3)", x.back(3), 0);
        due("back(2)", x.back(2), 1);
        due("domain(0)", x.domain(0), 12);
        due("told(2)", x.told(2), 1);
        due("back(2) again", x.back(2), -1);
        x.keep(1, 1);
        x.mark();
        x.keep(2, 2);
        x.mark();
        due("back(1)", x.back(1), 4);
        dueDomains(x, 15, 3, 3);
        due("told(2)", x.told(2), 0);
        due("name(1) without marks", x.name(1), 3);
    }

    private static void promise24Plans() {
        part = "promise 24";
        DifferentValues x = new DifferentValues();
        due("plans() without names", x.plans(), 1);
        x.name(4095);
        x.name(4095);
        due("plans()", x.plans(), 144);
        x.different(3);
        due("plans()", x.plans(), 132);
        x.clear();
        // 5 * 5 * 5 * 5 * 4 * 8 is 20000.
        x.name(31);
        x.name(31);
        x.name(31);
        x.name(31);
        x.name(15);
        x.name(255);
        due("plans() of 20000", x.plans(), 20000);
        x.name(3);
        due("plans() of 40000", x.plans(), -4);
        x.keep(6, 1);
        due("plans() of 20000", x.plans(), 20000);
        x.different(15);
        due("plans()", x.plans(), 120 * 32);
        x.mark();
        x.keep(0, 1);
        due("plans()", x.plans(), 24 * 32);
        x.back(1);
        due("plans() after back", x.plans(), 120 * 32);
        DifferentValues all = sixteen(4095);
        due("plans() of 12 to the 16", all.plans(), -4);
        due("plans() of 16 names with one value", sixteen(2048).plans(), 1);
        DifferentValues run = withNames(1, 3);
        run.different(3);
        due("plans()", run.plans(), 1);
        run.run();
        due("plans() after run", run.plans(), 1);
        DifferentValues near = withNames(27, 39, 3, 3, 3, 3, 3, 3, 3, 3, 3, 3);
        due("plans() of 16384", near.plans(), 16384);
    }

    private static void promise25Plan() {
        part = "promise 25";
        DifferentValues x = withNames(6, 2050, 2049);
        due("plan(0, 3)", x.plan(0, 3), -1);
        due("plan(0, -1)", x.plan(0, -1), -1);
        due("plan(-1, 3)", x.plan(-1, 3), -1);
        due("plan(-1, 0)", x.plan(-1, 0), -2);
        due("plan(8, 0)", x.plan(8, 0), -2);
        due("plan(max, 0)", x.plan(Integer.MAX_VALUE, 0), -2);
        due("plan(0, 0)", x.plan(0, 0), 1);
        due("plan(7, 0)", x.plan(7, 0), 2);
        due("plan(7, 1)", x.plan(7, 1), 11);
        due("plan(7, 2)", x.plan(7, 2), 11);
        x.different(7);
        // 1 11 0, 2 1 0, 2 1 11, 2 11 0.
        due("plans()", x.plans(), 4);
        due("plan(0, 1)", x.plan(0, 1), 11);
        due("plan(1, 2)", x.plan(1, 2), 0);
        due("plan(2, 2)", x.plan(2, 2), 11);
        due("plan(3, 1)", x.plan(3, 1), 11);
        due("plan(4, 1)", x.plan(4, 1), -2);
        DifferentValues wide = sixteen(2048);
        due("plan(0, 15)", wide.plan(0, 15), 11);
        DifferentValues all = sixteen(4095);
        due("plan(-1, 0) of too many", all.plan(-1, 0), -4);
        due("plan(0, 16) of too many", all.plan(0, 16), -1);
    }

    private static void promise26Told() {
        part = "promise 26";
        DifferentValues x = withNames(3, 3, 7, 4095);
        x.different(7);
        x.different(5);
        x.mark();
        x.mark();
        x.mark();
        due("told(-1)", x.told(-1), -2);
        due("told(5)", x.told(5), -2);
        due("told(0)", x.told(0), 4);
        due("told(1)", x.told(1), 2);
        due("told(2)", x.told(2), 3);
        due("told(3)", x.told(3), 19);
        due("told(4)", x.told(4), 2);
        x.keep(0, 1);
        due("told(3)", x.told(3), 18);
        // Row 0: 0 of name 1, 0 and 1 of name 2; row 1: 0 of name 2.
        due("told(4)", x.told(4), 4);
        x.keep(1, 1);
        due("told(4) of a row without a plan", x.told(4), 1 + 1 + 3 + 1);
    }

    /** By the turned row the names have 0 1 0 1 or 1 0 1 0, and the first of them is too dear. */
    private static void allSortsTogether() {
        part = "all six sorts over names that they share";
        DifferentValues x = withNames(15, 15, 15, 15);
        due("turned(3, 12)", x.turned(3, 12), 0);
        due("same(3, 12)", x.same(3, 12), 1);
        due("different(3)", x.different(3), 2);
        due("counted(6)", x.counted(6), 3);
        due("limits(3, 0, 1, 1)", x.limits(3, 0, 1, 1), 8);
        due("kinds(15, 2, 2)", x.kinds(15, 2, 2), 4);
        due("dear(9, 5)", x.dear(9, 5), 5);
        due("cost(5, 0, 0, 3)", x.cost(5, 0, 0, 3), 1000);
        due("cost(5, 3, 1, 3)", x.cost(5, 3, 1, 3), 1000);
        due("told(3)", x.told(3), 16);
        // 2 and 3 of each name of the turned row; the other rows by themselves leave all.
        due("told(4)", x.told(4), 8);
        due("in(5, 0, 0)", x.in(5, 0, 0), 1);
        due("plans()", x.plans(), 1);
        due("plan(0, 0)", x.plan(0, 0), 1);
        due("plan(0, 3)", x.plan(0, 3), 0);
        due("mark()", x.mark(), 1);
        due("keep(0, 13)", x.keep(0, 13), 1);
        // Each row has a plan by itself, but not with what the others leave.
        due("blocked()", x.blocked(), -1);
        due("run()", x.run(), -3);
        due("domain(0)", x.domain(0), 13);
        due("domain(3)", x.domain(3), 15);
        due("plans()", x.plans(), 0);
        due("limits(3, 0, 0, 8)", x.limits(3, 0, 0, 8), -3);
        due("back(1)", x.back(1), 1);
        due("run()", x.run(), 12);
        for (int n = 0; n < 4; n++) {
            due("domain(" + n + ")", x.domain(n), n % 2 == 0 ? 2 : 1);
        }
        for (int r = 0; r < 6; r++) {
            due("sure(" + r + ")", x.sure(r), 1);
        }
        due("told(3)", x.told(3), 4);
        due("told(4)", x.told(4), 0);
        due("run()", x.run(), 0);
        due("plan(0, 2)", x.plan(0, 2), 1);
        due("limits(3, 1, 0, 0)", x.limits(3, 1, 0, 0), 8);
        due("blocked()", x.blocked(), 3);
        due("run()", x.run(), -3);
        due("plans()", x.plans(), 0);
    }

    private static void readme() {
        part = "README.md";
        DifferentValues x = new DifferentValues();
        int a = x.name(0b0011);
        x.name(0b0011);
        int c = x.name(0b1111);
        int row = x.different(0b111);
        due("in(row, c, 0)", x.in(row, c, 0), 0);
        due("reason(row, c, 0)", x.reason(row, c, 0), 0b011);
        due("run()", x.run(), 2);
        due("domain(c)", x.domain(c), 0b1100);
        due("mark()", x.mark(), 1);
        due("keep(c, 0b0100)", x.keep(c, 0b0100), 1);
        due("plans()", x.plans(), 2);
        due("plan(0, a)", x.plan(0, a), 0);
        due("back(1)", x.back(1), 1);
        due("domain(c)", x.domain(c), 0b1100);
    }
}
