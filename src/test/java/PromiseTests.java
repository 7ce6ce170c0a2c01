/** Each promise of the document by itself: ordinary inputs, the edges that it names, wrong inputs. */
public final class PromiseTests {
    private static final int BAD = -1000000001, FULL = -1000000002, NONE = -1000000003;
    private static int wrong = 0;

    public static void main(String[] args) {
        aNewObject();
        begin();
        name();
        budget();
        row();
        term();
        future();
        set();
        told();
        comes();
        worst();
        worstName();
        breaks();
        safest();
        answer();
        twoStep();
        mean();
        best();
        regret();
        calmest();
        waiting();
        chance();
        refusedCallsChangeNothing();
        constants();
        System.out.println(wrong == 0 ? "all promises are kept" : wrong + " answers are not as due");
        if (wrong != 0) System.exit(1);
    }

    private static void due(int promise, String call, int got, int want) {
        if (got == want) return;
        wrong++;
        System.out.println("promise " + promise + ": " + call + " answered " + got + ", due is " + want);
    }

    private static void dueTold(int promise, String when, FutureSets x, int... want) {
        for (int i = 0; i < want.length; i++) due(promise, when + ", told(" + i + ")", x.told(i), want[i]);
    }

    /**
     * Two first choices and one second; names 0 (-2 0 3) and 1 (0 2 4); row 0: 1 - choice 0 - choice 1
     * (one first choice at least), row 1: name 0 - 2 * choice 2 - 1; cost: 2 * choice 0 + name 1 * choice 1
     * + 5 * choice 2. Futures: 0 usual, odds 10; 1 kept, odds 30, name 1 is 0; 2 odds 5, name 0 is 3, name 1 is 1.
     */
    private static FutureSets sample() {
        FutureSets x = new FutureSets();
        x.begin(2, 1);
        x.name(-2, 0, 3);
        x.name(0, 2, 4);
        x.row();
        x.row();
        x.term(0, -1, -1, 1);
        x.term(0, 0, -1, -1);
        x.term(0, 1, -1, -1);
        x.term(1, -1, 0, 1);
        x.term(1, 2, -1, -2);
        x.term(1, -1, -1, -1);
        x.term(-1, 0, -1, 2);
        x.term(-1, 1, 1, 1);
        x.term(-1, 2, -1, 5);
        x.future(10, false);
        x.future(30, true);
        x.future(5, false);
        x.set(1, 1, 0);
        x.set(2, 0, 3);
        x.set(2, 1, 1);
        return x;
    }

    /** No rows, terms or names; futures of the odds given, all counted. */
    private static FutureSets withFutures(int f, int s, int... odds) {
        FutureSets x = new FutureSets();
        x.begin(f, s);
        for (int each : odds) x.future(each, false);
        return x;
    }

    private static void aNewObject() {
        FutureSets x = new FutureSets();
        dueTold(1, "new", x, 0, 0, 0, 0, 0, 1, 0, 0);
        due(1, "comes(1, -1, -1)", x.comes(1, -1, -1), 0);
        due(1, "comes(2, -1, -1)", x.comes(2, -1, -1), BAD);
        due(1, "comes(0, 0, -1)", x.comes(0, 0, -1), BAD);
        due(1, "comes(0, -1, 0)", x.comes(0, -1, 0), BAD);
        due(1, "worst(1, -1)", x.worst(1, -1), 0);
        due(1, "worstName(0, -1, 0)", x.worstName(0, -1, 0), BAD);
        due(1, "breaks(1)", x.breaks(1), NONE);
        due(1, "safest()", x.safest(), 0);
        due(1, "twoStep()", x.twoStep(), NONE);
        due(1, "calmest()", x.calmest(), NONE);
        due(1, "budget(0)", x.budget(0), 0);
        FutureSets used = sample();
        dueTold(1, "new, beside a used one", new FutureSets(), 0, 0, 0, 0, 0, 1, 0, 0);
        dueTold(1, "used, beside a new one", used, 2, 2, 9, 3, 2, 2, 1, 0);
    }

    private static void begin() {
        FutureSets x = sample();
        x.budget(2);
        int[][] bad = {{0, 0}, {7, 0}, {-1, 0}, {1, -1}, {1, 5}, {Integer.MAX_VALUE, 0}, {Integer.MIN_VALUE, 0},
            {1, Integer.MAX_VALUE}, {1, Integer.MIN_VALUE}, {0, 5}};
        for (int[] each : bad) {
            due(2, "begin(" + each[0] + ", " + each[1] + ")", x.begin(each[0], each[1]), BAD);
            dueTold(2, "after a refused begin", x, 2, 2, 9, 3, 2, 2, 1, 2);
        }
        due(2, "begin(6, 4)", x.begin(6, 4), 9);
        dueTold(2, "after begin(6, 4)", x, 0, 0, 0, 0, 0, 6, 4, 0);
        due(2, "comes(1023, -1, -1)", x.comes(1023, -1, -1), 0);
        due(2, "comes(1024, -1, -1)", x.comes(1024, -1, -1), BAD);
        due(2, "begin(1, 0)", x.begin(1, 0), 0);
        dueTold(2, "after begin(1, 0)", x, 0, 0, 0, 0, 0, 1, 0, 0);
        due(2, "name(5, 5, 6)", x.name(5, 5, 6), 0);
        due(2, "row()", x.row(), 0);
        due(2, "future(1, false)", x.future(1, false), 0);
        due(2, "set(0, 0, 6)", x.set(0, 0, 6), 5);
        due(2, "term(0, -1, 0, 1)", x.term(0, -1, 0, 1), 1);
        due(2, "comes(0, 0, 0)", x.comes(0, 0, 0), 6);
        due(2, "begin(1, 0) again", x.begin(1, 0), 1);
        due(2, "future(7, true)", x.future(7, true), 0);
        due(2, "name(1, 2, 3)", x.name(1, 2, 3), 0);
        due(2, "set(0, 0, 1): nothing is left of before", x.set(0, 0, 1), 2);
        due(2, "row()", x.row(), 0);
        due(2, "comes(0, 0, 0): nothing is left of before", x.comes(0, 0, 0), 0);
    }

    private static void name() {
        FutureSets x = new FutureSets();
        int[][] bad = {{1, 0, 2}, {0, 3, 2}, {2, 1, 0}, {-101, 0, 0}, {0, 0, 101}, {101, 101, 101},
            {-101, -101, -101}, {Integer.MIN_VALUE, 0, 0}, {0, 0, Integer.MAX_VALUE}, {0, 0, -1}};
        for (int[] each : bad) due(3, "name of bad numbers", x.name(each[0], each[1], each[2]), BAD);
        due(3, "told(0)", x.told(0), 0);
        x.future(1, false);
        due(3, "name(-100, -100, 100)", x.name(-100, -100, 100), 0);
        due(3, "name(-100, 100, 100)", x.name(-100, 100, 100), 1);
        due(3, "name(7, 7, 7)", x.name(7, 7, 7), 2);
        due(3, "set(0, 0, 100), usual before", x.set(0, 0, 100), -100);
        due(3, "set(0, 1, -100), usual before", x.set(0, 1, -100), 100);
        due(3, "set(0, 2, 7), usual before", x.set(0, 2, 7), 7);
        for (int i = 3; i < 12; i++) due(3, "name(0, 1, 2)", x.name(0, 1, 2), i);
        due(3, "name(0, 0, 0) when full", x.name(0, 0, 0), FULL);
        due(3, "name(1, 0, 0) when full", x.name(1, 0, 0), BAD);
        due(3, "told(0) when full", x.told(0), 12);
        due(3, "set(0, 0, 0) after a refused name", x.set(0, 0, 0), 100);
    }

    private static void budget() {
        FutureSets x = new FutureSets();
        due(4, "budget(12)", x.budget(12), 0);
        due(4, "budget(13)", x.budget(13), BAD);
        due(4, "budget(-1)", x.budget(-1), BAD);
        due(4, "budget(min)", x.budget(Integer.MIN_VALUE), BAD);
        due(4, "told(7)", x.told(7), 12);
        due(4, "budget(3)", x.budget(3), 12);
        due(4, "budget(0)", x.budget(0), 3);
        due(4, "told(7)", x.told(7), 0);
    }

    private static void row() {
        FutureSets x = new FutureSets();
        for (int i = 0; i < 10; i++) due(5, "row()", x.row(), i);
        due(5, "row() when full", x.row(), FULL);
        due(5, "told(1) when full", x.told(1), 10);
        due(5, "comes(0, 9, -1)", x.comes(0, 9, -1), 0);
        due(5, "comes(0, 10, -1)", x.comes(0, 10, -1), BAD);
        due(5, "breaks(0)", x.breaks(0), NONE);
        due(5, "term(9, -1, -1, 1)", x.term(9, -1, -1, 1), 1);
        due(5, "breaks(0)", x.breaks(0), 9);
    }

    private static void term() {
        FutureSets x = new FutureSets();
        x.begin(2, 1);
        due(6, "term(0, -1, -1, 1) without rows", x.term(0, -1, -1, 1), BAD);
        due(6, "term(-1, -1, 0, 1) without names", x.term(-1, -1, 0, 1), BAD);
        x.row();
        x.name(2, 3, 4);
        int[][] bad = {{1, 0, 0, 1}, {-2, 0, 0, 1}, {0, 3, 0, 1}, {0, -2, 0, 1}, {0, 0, 1, 1}, {0, 0, -2, 1},
            {0, 0, 0, 21}, {0, 0, 0, -21}, {Integer.MIN_VALUE, 0, 0, 1}, {0, Integer.MAX_VALUE, 0, 1},
            {0, 0, Integer.MAX_VALUE, 1}, {0, 0, 0, Integer.MIN_VALUE}};
        for (int[] each : bad) due(6, "term of bad numbers", x.term(each[0], each[1], each[2], each[3]), BAD);
        due(6, "told(2)", x.told(2), 0);
        due(6, "term(0, 2, 0, 20)", x.term(0, 2, 0, 20), 1);
        due(6, "term(0, 0, -1, -20)", x.term(0, 0, -1, -20), 2);
        due(6, "term(0, -1, 0, 5)", x.term(0, -1, 0, 5), 3);
        due(6, "term(-1, -1, -1, 0)", x.term(-1, -1, -1, 0), 4);
        due(6, "term(-1, 1, 0, 1)", x.term(-1, 1, 0, 1), 5);
        due(6, "comes(0, 0, -1)", x.comes(0, 0, -1), 15);
        due(6, "comes(5, 0, -1)", x.comes(5, 0, -1), 55);
        due(6, "comes(2, -1, -1)", x.comes(2, -1, -1), 3);
        for (int i = 6; i <= 40; i++) due(6, "term(0, 2, 0, 20)", x.term(0, 2, 0, 20), i);
        due(6, "term(0, 2, 0, 20) when full", x.term(0, 2, 0, 20), FULL);
        due(6, "term(0, 2, 0, 21) when full", x.term(0, 2, 0, 21), BAD);
        due(6, "told(2) when full", x.told(2), 40);
        due(6, "comes(4, 0, -1) when full", x.comes(4, 0, -1), 15 + 36 * 60);
    }

    private static void future() {
        FutureSets x = new FutureSets();
        x.name(1, 2, 3);
        x.row();
        x.term(0, -1, 0, 1);
        due(7, "future(0, false)", x.future(0, false), BAD);
        due(7, "future(101, true)", x.future(101, true), BAD);
        due(7, "future(min, true)", x.future(Integer.MIN_VALUE, true), BAD);
        due(7, "told(3)", x.told(3), 0);
        due(7, "future(1, false)", x.future(1, false), 0);
        due(7, "future(100, true)", x.future(100, true), 1);
        due(7, "comes(0, 0, 0), all usual", x.comes(0, 0, 0), 2);
        due(7, "comes(0, 0, 1), all usual", x.comes(0, 0, 1), 2);
        x.set(1, 0, 3);
        for (int i = 2; i < 8; i++) due(7, "future(5, false)", x.future(5, false), i);
        due(7, "comes(0, 0, 2), all usual", x.comes(0, 0, 2), 2);
        due(7, "future(5, false) when full", x.future(5, false), FULL);
        due(7, "future(0, false) when full", x.future(0, false), BAD);
        due(7, "told(3) when full", x.told(3), 8);
        due(7, "told(4) when full", x.told(4), 7);
    }

    private static void set() {
        FutureSets x = sample();
        due(8, "set(0, 0, -2)", x.set(0, 0, -2), 0);
        due(8, "set(0, 0, 3)", x.set(0, 0, 3), -2);
        due(8, "set(0, 0, 3)", x.set(0, 0, 3), 3);
        int[][] bad = {{0, 0, 4}, {0, 0, -3}, {3, 0, 0}, {-1, 0, 0}, {0, 2, 0}, {0, -1, 0},
            {0, 0, Integer.MAX_VALUE}, {Integer.MAX_VALUE, 0, 0}, {0, Integer.MIN_VALUE, 0}};
        for (int[] each : bad) due(8, "set of bad numbers", x.set(each[0], each[1], each[2]), BAD);
        due(8, "set(0, 0, 1) after refused ones", x.set(0, 0, 1), 3);
        due(8, "set(0, 1, 2), another name", x.set(0, 1, 2), 2);
        due(8, "set(2, 0, 3), another future", x.set(2, 0, 3), 3);
        due(8, "comes(0, 1, 0)", x.comes(0, 1, 0), 0);
        due(8, "comes(0, 1, -1), the usual one", x.comes(0, 1, -1), -1);
        due(8, "worst(0, 1), the usual ones", x.worst(0, 1), -1);
    }

    private static void told() {
        FutureSets x = sample();
        x.budget(7);
        dueTold(9, "sample", x, 2, 2, 9, 3, 2, 2, 1, 7);
        due(9, "told(8)", x.told(8), BAD);
        due(9, "told(-1)", x.told(-1), BAD);
        due(9, "told(max)", x.told(Integer.MAX_VALUE), BAD);
        due(9, "told(min)", x.told(Integer.MIN_VALUE), BAD);
    }

    private static void comes() {
        FutureSets x = sample();
        due(10, "comes(0, 0, -1)", x.comes(0, 0, -1), 1);
        due(10, "comes(3, 0, -1)", x.comes(3, 0, -1), -1);
        due(10, "comes(7, -1, -1)", x.comes(7, -1, -1), 9);
        due(10, "comes(7, -1, 0)", x.comes(7, -1, 0), 9);
        due(10, "comes(7, -1, 1)", x.comes(7, -1, 1), 7);
        due(10, "comes(7, -1, 2)", x.comes(7, -1, 2), 8);
        due(10, "comes(4, 1, 2)", x.comes(4, 1, 2), 0);
        int[][] bad = {{8, 0, 0}, {-1, 0, 0}, {0, 2, 0}, {0, -2, 0}, {0, 0, 3}, {0, 0, -2},
            {Integer.MAX_VALUE, 0, 0}, {0, Integer.MIN_VALUE, 0}, {0, 0, Integer.MIN_VALUE}};
        for (int[] each : bad) due(10, "comes of bad numbers", x.comes(each[0], each[1], each[2]), BAD);
    }

    /** Row 0 is of three names with gains 6, 8, 8 and of one whose factors cancel. */
    private static FutureSets gaining() {
        FutureSets x = new FutureSets();
        x.begin(1, 1);
        x.name(-5, 0, 6);
        x.name(-4, 0, 1);
        x.name(0, 1, 5);
        x.name(-9, 2, 9);
        x.row();
        x.term(0, -1, 0, 1);
        x.term(0, -1, 1, -2);
        x.term(0, 0, 2, 2);
        x.term(0, 1, 3, 3);
        x.term(0, -1, 3, 4);
        x.term(0, -1, 3, -4);
        x.term(0, -1, -1, -10);
        return x;
    }

    private static void worst() {
        FutureSets x = gaining();
        int[][] wantByBudget = {{-10, -8, -4, -2}, {-2, 0, 17, 19}, {4, 8, 25, 27}, {4, 14, 31, 35}, {4, 14, 31, 41}};
        for (int n = 0; n < wantByBudget.length; n++) {
            x.budget(n);
            for (int plan = 0; plan < 4; plan++) {
                due(11, "worst(" + plan + ", 0), budget " + n, x.worst(plan, 0), wantByBudget[n][plan]);
            }
        }
        x.budget(12);
        due(11, "worst(3, 0), budget 12", x.worst(3, 0), 41);
        due(11, "worst(3, -1) without terms", x.worst(3, -1), 0);
        x.term(-1, 1, 0, -1);
        due(11, "worst(1, -1)", x.worst(1, -1), 0);
        due(11, "worst(2, -1)", x.worst(2, -1), 5);
        int[][] bad = {{4, 0}, {-1, 0}, {0, 1}, {0, -2}, {Integer.MIN_VALUE, 0}, {0, Integer.MAX_VALUE}};
        for (int[] each : bad) due(11, "worst of bad numbers", x.worst(each[0], each[1]), BAD);
    }

    private static void dueWorstNames(FutureSets x, int plan, int row, int... want) {
        for (int i = 0; i < want.length; i++) {
            String call = "worstName(" + plan + ", " + row + ", " + i + "), budget " + x.told(7);
            due(12, call, x.worstName(plan, row, i), want[i]);
        }
    }

    private static void worstName() {
        FutureSets x = gaining();
        dueWorstNames(x, 3, 0, 0, 0, 1, 2);
        x.budget(1);
        dueWorstNames(x, 0, 0, 0, -4, 1, 2);
        dueWorstNames(x, 1, 0, 0, -4, 1, 2);
        dueWorstNames(x, 2, 0, 0, 0, 1, 9);
        x.budget(2);
        dueWorstNames(x, 1, 0, 0, -4, 5, 2);
        dueWorstNames(x, 3, 0, 0, -4, 1, 9);
        x.budget(3);
        dueWorstNames(x, 3, 0, 0, -4, 5, 9);
        x.budget(12);
        dueWorstNames(x, 0, 0, 6, -4, 1, 2);
        dueWorstNames(x, 3, 0, 6, -4, 5, 9);
        dueWorstNames(x, 3, -1, 0, 0, 1, 2);
        x.term(-1, 0, 0, -1);
        dueWorstNames(x, 0, -1, 0, 0, 1, 2);
        dueWorstNames(x, 1, -1, -5, 0, 1, 2);
        int[][] bad = {{4, 0, 0}, {-1, 0, 0}, {0, 1, 0}, {0, -2, 0}, {0, 0, 4}, {0, 0, -1},
            {Integer.MAX_VALUE, 0, 0}, {0, Integer.MIN_VALUE, 0}, {0, 0, Integer.MAX_VALUE}};
        for (int[] each : bad) due(12, "worstName of bad numbers", x.worstName(each[0], each[1], each[2]), BAD);
        FutureSets fixed = new FutureSets();
        fixed.name(3, 3, 3);
        fixed.name(-1, 0, 1);
        fixed.name(-1, 0, 1);
        fixed.budget(1);
        for (int i = 0; i < 3; i++) fixed.term(-1, -1, i, -7);
        dueWorstNames(fixed, 0, -1, 3, -1, 0);
    }

    private static void breaks() {
        FutureSets x = sample();
        due(13, "breaks(0)", x.breaks(0), 0);
        due(13, "breaks(1)", x.breaks(1), NONE);
        due(13, "breaks(4)", x.breaks(4), 0);
        x.budget(1);
        due(13, "breaks(0), budget 1", x.breaks(0), 0);
        due(13, "breaks(1), budget 1", x.breaks(1), 1);
        due(13, "breaks(5), budget 1: 0 holds", x.breaks(5), NONE);
        due(13, "breaks(8)", x.breaks(8), BAD);
        due(13, "breaks(-1)", x.breaks(-1), BAD);
        due(13, "breaks(min)", x.breaks(Integer.MIN_VALUE), BAD);
        x.term(1, 2, -1, 1);
        due(13, "breaks(5), 1 does not hold", x.breaks(5), 1);
    }

    private static void safest() {
        FutureSets x = sample();
        due(14, "safest(), budget 0: 1 and 2 cost 2", x.safest(), 1);
        x.budget(1);
        due(14, "safest(), budget 1", x.safest(), 5);
        x.term(-1, 0, -1, 3);
        due(14, "safest(): 5 costs 10, 6 at worst 9", x.safest(), 6);
        x.term(1, -1, -1, 1);
        due(14, "safest(), none safe", x.safest(), NONE);
        x.budget(0);
        due(14, "safest(), budget 0 again", x.safest(), 2);
        FutureSets negative = new FutureSets();
        negative.begin(2, 1);
        negative.term(-1, 2, -1, -3);
        negative.term(-1, 0, -1, 1);
        due(14, "safest(): least cost is below 0", negative.safest(), 4);
    }

    private static void answer() {
        FutureSets x = sample();
        int[][] want = {{NONE, NONE, NONE}, {1, 1, 5}, {2, 2, 6}, {3, 3, 7}};
        for (int first = 0; first < 4; first++) {
            for (int i = 0; i < 3; i++) {
                due(15, "answer(" + first + ", " + i + ")", x.answer(first, i), want[first][i]);
            }
        }
        int[][] bad = {{4, 0}, {-1, 0}, {0, 3}, {0, -1}, {Integer.MAX_VALUE, 0}, {0, Integer.MIN_VALUE}};
        for (int[] each : bad) due(15, "answer of bad numbers", x.answer(each[0], each[1]), BAD);
        FutureSets free = withFutures(1, 2, 1);
        due(15, "answer(1, 0): of several the least number", free.answer(1, 0), 1);
        free.term(-1, 2, -1, -1);
        due(15, "answer(1, 0)", free.answer(1, 0), 5);
        free.term(-1, 1, -1, -1);
        due(15, "answer(0, 0)", free.answer(0, 0), 6);
        due(15, "answer(0, 1)", free.answer(0, 1), BAD);
    }

    private static void twoStep() {
        FutureSets x = sample();
        due(16, "twoStep(): 1 has 20 + 35, 2 has 20 + 30", x.twoStep(), 2);
        x.set(0, 1, 3);
        due(16, "twoStep(): 1 has 20 + 35, 2 has 30 + 30", x.twoStep(), 1);
        x.set(0, 1, 2);
        x.set(2, 1, 2);
        due(16, "twoStep(), the least of several", x.twoStep(), 1);
        x.term(1, -1, -1, 1);
        due(16, "twoStep(), no answer in future 2", x.twoStep(), NONE);
        FutureSets kept = new FutureSets();
        due(16, "twoStep() without futures", kept.twoStep(), NONE);
        kept.future(3, true);
        due(16, "twoStep() without counted ones", kept.twoStep(), NONE);
        kept.future(3, false);
        due(16, "twoStep()", kept.twoStep(), 0);
        kept.term(-1, 0, -1, -2);
        due(16, "twoStep(), costs below 0", kept.twoStep(), 1);
        FutureSets some = withFutures(1, 0, 9, 1);
        some.name(0, 0, 1);
        some.row();
        some.term(0, -1, 0, 1);
        some.term(0, 0, -1, -1);
        some.term(-1, 0, -1, 5);
        due(16, "twoStep()", some.twoStep(), 0);
        some.set(1, 0, 1);
        due(16, "twoStep(): 0 has no answer in one of them", some.twoStep(), 1);
    }

    private static void dueMean(FutureSets x, int first, int above, int below) {
        due(17, "mean(" + first + ", 0)", x.mean(first, 0), above);
        due(17, "mean(" + first + ", 1)", x.mean(first, 1), below);
    }

    private static void mean() {
        FutureSets x = sample();
        dueMean(x, 0, NONE, NONE);
        dueMean(x, 1, 11, 3);
        dueMean(x, 2, 10, 3);
        dueMean(x, 3, 16, 3);
        x.term(-1, -1, -1, -20);
        dueMean(x, 2, -50, 3);
        int[][] bad = {{4, 0}, {-1, 0}, {0, 2}, {0, -1}, {1, 2}, {Integer.MAX_VALUE, 1}, {0, Integer.MIN_VALUE}};
        for (int[] each : bad) due(17, "mean of bad numbers", x.mean(each[0], each[1]), BAD);
        FutureSets zero = withFutures(1, 0, 4, 6);
        dueMean(zero, 0, 0, 1);
        zero.name(0, 0, 3);
        zero.term(-1, -1, 0, 1);
        zero.set(1, 0, 3);
        dueMean(zero, 1, 9, 5);
        FutureSets kept = new FutureSets();
        dueMean(kept, 0, NONE, NONE);
        kept.future(7, true);
        dueMean(kept, 0, NONE, NONE);
        due(17, "mean(0, 2) without counted ones", kept.mean(0, 2), BAD);
        dueMean(greatest(), 0, 80000, 1);
        FutureSets below = withFutures(1, 0, 2, 2);
        below.name(-3, -2, -2);
        below.term(-1, -1, 0, 1);
        below.set(0, 0, -3);
        dueMean(below, 0, -5, 2);
    }

    /** All 40 terms of the cost are as great as can be, and so are all odds. */
    private static FutureSets greatest() {
        FutureSets x = withFutures(6, 4, 100, 100, 100, 100, 100, 100, 100, 100);
        x.name(100, 100, 100);
        for (int i = 0; i < 40; i++) x.term(-1, -1, 0, 20);
        return x;
    }

    private static void best() {
        FutureSets x = sample();
        due(18, "best(0)", x.best(0), 2);
        due(18, "best(1), kept", x.best(1), 0);
        due(18, "best(2)", x.best(2), 6);
        due(18, "best(3)", x.best(3), BAD);
        due(18, "best(-1)", x.best(-1), BAD);
        due(18, "best(min)", x.best(Integer.MIN_VALUE), BAD);
        x.term(1, -1, -1, 1);
        due(18, "best(2), none", x.best(2), NONE);
        due(18, "best(0)", x.best(0), 2);
        x.term(-1, 1, -1, -20);
        due(18, "best(0), below 0", x.best(0), -18);
        due(18, "best(7)", greatest().best(7), 80000);
    }

    private static void regret() {
        FutureSets x = sample();
        due(19, "regret(0)", x.regret(0), NONE);
        due(19, "regret(1): 0 and 1", x.regret(1), 1);
        due(19, "regret(2)", x.regret(2), 0);
        due(19, "regret(3): 2 and 2", x.regret(3), 2);
        x.set(0, 1, 4);
        due(19, "regret(2): 2 and 0", x.regret(2), 2);
        due(19, "regret(3): 4 and 2", x.regret(3), 4);
        due(19, "regret(4)", x.regret(4), BAD);
        due(19, "regret(-1)", x.regret(-1), BAD);
        due(19, "regret(max)", x.regret(Integer.MAX_VALUE), BAD);
        FutureSets kept = new FutureSets();
        due(19, "regret(0) without futures", kept.regret(0), NONE);
        kept.future(1, true);
        due(19, "regret(0) without counted ones", kept.regret(0), NONE);
        due(19, "regret(2) without counted ones", kept.regret(2), BAD);
    }

    private static void calmest() {
        FutureSets x = sample();
        due(20, "calmest()", x.calmest(), 2);
        x.set(0, 1, 4);
        due(20, "calmest(): 1 has 1, 2 has 2", x.calmest(), 1);
        x.set(0, 1, 3);
        due(20, "calmest(), the least of several", x.calmest(), 1);
        x.term(1, -1, -1, 1);
        due(20, "calmest(), no answer in future 2", x.calmest(), NONE);
        FutureSets odds = withFutures(1, 0, 100, 1);
        odds.name(0, 0, 9);
        odds.term(-1, 0, -1, 2);
        odds.term(-1, 0, 0, -1);
        odds.set(1, 0, 9);
        due(20, "twoStep() minds odds", odds.twoStep(), 0);
        due(20, "calmest() does not mind odds", odds.calmest(), 1);
        FutureSets kept = new FutureSets();
        due(20, "calmest() without futures", kept.calmest(), NONE);
        kept.future(1, true);
        due(20, "calmest() without counted ones", kept.calmest(), NONE);
    }

    private static void dueWaiting(FutureSets x, int above, int below) {
        due(21, "waiting(0)", x.waiting(0), above);
        due(21, "waiting(1)", x.waiting(1), below);
    }

    private static void waiting() {
        FutureSets x = sample();
        dueWaiting(x, 0, 1);
        x.set(0, 1, 3);
        x.set(2, 1, 0);
        dueWaiting(x, 2, 3);
        x.set(1, 1, 4);
        dueWaiting(x, 2, 3);
        due(21, "waiting(2)", x.waiting(2), BAD);
        due(21, "waiting(-1)", x.waiting(-1), BAD);
        due(21, "waiting(min)", x.waiting(Integer.MIN_VALUE), BAD);
        x.term(1, -1, -1, 1);
        dueWaiting(x, NONE, NONE);
        due(21, "waiting(2), none", x.waiting(2), BAD);
        FutureSets kept = new FutureSets();
        dueWaiting(kept, NONE, NONE);
        kept.future(1, true);
        dueWaiting(kept, NONE, NONE);
        dueWaiting(greatest(), 0, 1);
        FutureSets again = greatest();
        again.waiting(0);
        again.begin(1, 0);
        again.future(1, true);
        again.future(1, false);
        dueWaiting(again, 0, 1);
    }

    private static void dueChance(FutureSets x, int plan, int above, int below) {
        due(22, "chance(" + plan + ", 0)", x.chance(plan, 0), above);
        due(22, "chance(" + plan + ", 1)", x.chance(plan, 1), below);
    }

    private static void chance() {
        FutureSets x = sample();
        dueChance(x, 0, 0, 1);
        dueChance(x, 1, 2, 3);
        dueChance(x, 4, 0, 1);
        dueChance(x, 7, 1, 1);
        int[][] bad = {{8, 0}, {-1, 0}, {0, 2}, {0, -1}, {Integer.MAX_VALUE, 0}, {0, Integer.MIN_VALUE}};
        for (int[] each : bad) due(22, "chance of bad numbers", x.chance(each[0], each[1]), BAD);
        FutureSets kept = new FutureSets();
        dueChance(kept, 0, NONE, NONE);
        kept.future(1, true);
        dueChance(kept, 1, NONE, NONE);
        due(22, "chance(2, 0) without counted ones", kept.chance(2, 0), BAD);
        due(22, "chance(0, 2) without counted ones", kept.chance(0, 2), BAD);
        kept.future(4, false);
        dueChance(kept, 1, 1, 1);
        FutureSets longWay = withFutures(1, 0, 89, 55, 89, 55);
        longWay.name(0, 0, 1);
        longWay.row();
        longWay.term(0, -1, 0, 1);
        longWay.set(1, 0, 1);
        longWay.set(3, 0, 1);
        dueChance(longWay, 0, 89, 144);
    }

    /** All that can be asked of a small object, as one text. */
    private static String everything(FutureSets x) {
        StringBuilder all = new StringBuilder();
        for (int i = 0; i < 8; i++) all.append(x.told(i)).append(' ');
        for (int plan = 0; plan < 8; plan++) {
            all.append(x.breaks(plan)).append(' ').append(x.chance(plan, 0)).append(' ');
            for (int row = -1; row < x.told(1); row++) {
                for (int i = -1; i < x.told(3); i++) all.append(x.comes(plan, row, i)).append(' ');
                all.append(x.worst(plan, row)).append(' ');
            }
        }
        all.append(x.safest()).append(' ').append(x.twoStep()).append(' ').append(x.calmest());
        return all.toString();
    }

    private static void refusedCallsChangeNothing() {
        FutureSets x = sample();
        x.budget(1);
        String before = everything(x);
        int[] refused = {x.begin(0, 0), x.begin(1, 5), x.name(1, 0, 0), x.budget(13), x.term(2, 0, 0, 1),
            x.term(0, 3, 0, 1), x.term(0, 0, 2, 1), x.term(0, 0, 0, 21), x.future(0, false), x.set(0, 0, 4),
            x.set(3, 0, 0), x.set(0, 2, 0), x.told(8), x.comes(8, 0, 0), x.worst(8, 0), x.worstName(0, 0, 2),
            x.breaks(8), x.answer(4, 0), x.mean(4, 0), x.best(3), x.regret(4), x.waiting(2), x.chance(8, 0)};
        for (int i = 0; i < refused.length; i++) due(0, "refused call " + i, refused[i], BAD);
        if (!before.equals(everything(x))) due(0, "something changed with a refused call", 1, 0);
    }

    private static void constants() {
        due(0, "BAD", FutureSets.BAD, BAD);
        due(0, "FULL", FutureSets.FULL, FULL);
        due(0, "NONE", FutureSets.NONE, NONE);
    }
}
