import java.util.function.Supplier;
import java.util.function.ToIntFunction;

/**
 * Each sentence of the document that names a boundary case, in the document's order: a method for each, which
 * begins with the sentence. A refused call is tested with its answer and with all that later calls show.
 */
public final class BoundaryTests {
    private static final int BAD = -1000000001, FULL = -1000000002, NONE = -1000000003;
    private static final int MIN = Integer.MIN_VALUE, MAX = Integer.MAX_VALUE;
    private static int wrong = 0;
    private static int sentences = 0;
    private static String sentence = "";

    public static void main(String[] args) {
        theWholeDocument();
        terms();
        whateverComes();
        byWhatIsListed();
        refusals();
        promises1To9();
        promises10To14();
        promises15To22();
        System.out.println(sentences + " sentences, " + wrong + " answers that are not as due");
        if (wrong != 0) System.exit(1);
    }

    private static void theWholeDocument() {
        constantsAreAsTold();
        fiveHundredAndTwelveCalls();
    }

    private static void terms() {
        namesAreTwelveAtMost();
        numbersAreFromMinus100To100();
        numbersAreInThisOrder();
        numbersMayBeTheSame();
        aFutureKeepsToLeastAndGreatest();
        theSetHasAtMostBudgetOthers();
        firstChoicesAreOneToSix();
        secondChoicesAreNoneToFour();
        bitsFromFPlusSOnAreZero();
        firstPartIsBelowF();
        secondPartStandsAsItIs();
        rowsAreTenAtMost();
        termsAreFortyAtMost();
        factorsAreFromMinus20To20();
        aTermMayHaveNoChoiceAndNoName();
        aRowWithoutTermsComesToZero();
        aRowHoldsAtZero();
        theGreatestSums();
    }

    private static void whateverComes() {
        safeIsInAllFuturesOfTheSet();
        worstIsTheGreatestOfTheSet();
        worstFutureHasTheFewestOthers();
        worstFutureTakesTheLeastNames();
        worstFutureHasOneNumberForEachName();
        safestOfSeveralIsTheLeast();
    }

    private static void byWhatIsListed() {
        listedFuturesAreEightAtMost();
        oddsAreFrom1To100();
        keptFuturesAreNotCounted();
        answerOfSeveralIsTheLeast();
        answerMayBeNone();
        twoStepNeedsAllAnswers();
        twoStepOfSeveralIsTheLeast();
        bestIsOfAllFirstParts();
        regretIsTheGreatest();
        calmestNeedsAllAnswers();
        calmestOfSeveralIsTheLeast();
        waitingIsOfCountedFutures();
        chanceFromNoneToAll();
        fractionsAreInLeastTerms();
        belowIsAboveZero();
    }

    private static void refusals() {
        badComesBeforeFull();
        badComesBeforeNone();
        badChangesNothing();
        fullChangesNothing();
        noneChangesNothing();
    }

    private static void promises1To9() {
        aNewObjectHasNothing();
        beginLeavesNothing();
        beginTellsTheTerms();
        beginRefuses();
        nameTellsItsNumber();
        nameIsUsualInListedFutures();
        nameRefuses();
        budgetTellsWhatItWas();
        budgetRefuses();
        rowTellsItsNumber();
        rowRefuses();
        termTellsHowMany();
        termRefuses();
        futureIsUsual();
        futureRefuses();
        setTellsWhatItWas();
        setMindsNoBudget();
        setRefuses();
        toldTellsEach();
        toldRefuses();
    }

    private static void promises10To14() {
        comesTakesCostAndUsual();
        comesRefuses();
        worstTakesTheCost();
        worstRefuses();
        worstNameOfEachName();
        worstNameRefuses();
        breaksTellsTheFirstRow();
        breaksRefuses();
        safestRefuses();
    }

    private static void promises15To22() {
        answerTakesKeptFutures();
        answerRefuses();
        twoStepRefuses();
        meanRefuses();
        bestTakesKeptFutures();
        bestRefuses();
        regretRefuses();
        calmestRefuses();
        waitingRefuses();
        chanceRefuses();
    }

    // ---- what the tests are made of

    private static void about(String words) {
        sentence = words;
        sentences++;
    }

    private static void say(String what) {
        wrong++;
        System.out.println("\"" + sentence + "\": " + what);
    }

    private static void due(String call, int got, int want) {
        if (got != want) say(call + " answered " + got + ", due is " + want);
    }

    private static void dueTold(FutureSets x, int... want) {
        for (int i = 0; i < want.length; i++) due("told(" + i + ")", x.told(i), want[i]);
    }

    private static void dueFraction(String what, int above, int below, int wantAbove, int wantBelow) {
        due(what + " above", above, wantAbove);
        due(what + " below", below, wantBelow);
    }

    /** The call answers as due, and then all that calls can show is as if it had never been. */
    private static void refused(Supplier<FutureSets> made, String call, ToIntFunction<FutureSets> ask, int want) {
        FutureSets x = made.get();
        due(call, ask.applyAsInt(x), want);
        String got = everything(x);
        String without = everything(made.get());
        if (!got.equals(without)) say("behind " + call + " calls answer\n" + got + "\nwithout it\n" + without);
        due(call + ", asked of a new one", ask.applyAsInt(made.get()), want);
    }

    /**
     * What calls show of an object, and how it goes on from there: first the calls that change nothing, then
     * those that tell what was as they change it. With the calls before, fewer than 512.
     */
    private static String everything(FutureSets x) {
        StringBuilder all = new StringBuilder();
        int names = x.told(0), rows = x.told(1), futures = x.told(3), f = x.told(5), choices = f + x.told(6);
        int last = (1 << choices) - 1, lastFirst = (1 << f) - 1;
        for (int i = 0; i < 8; i++) put(all, x.told(i));
        for (int row = -1; row < rows; row++) {
            put(all, x.comes(0, row, -1), x.worst(last, row));
            for (int j = 0; j < choices; j++) put(all, x.comes(1 << j, row, -1));
            for (int i = 0; i < futures; i++) put(all, x.comes(last, row, i));
        }
        for (int i = 0; i < names; i++) put(all, x.worstName(last, -1, i));
        put(all, x.breaks(0), x.breaks(last), x.safest(), x.twoStep(), x.calmest(), x.waiting(0), x.waiting(1));
        for (int i = 0; i < futures; i++) put(all, x.answer(0, i), x.answer(lastFirst, i), x.best(i));
        put(all, x.mean(lastFirst, 0), x.mean(lastFirst, 1), x.regret(lastFirst), x.chance(last, 0), x.chance(last, 1));
        for (int i = 0; i < futures; i++) {
            for (int name = 0; name < names; name++) put(all, x.set(i, name, 0));
        }
        put(all, x.budget(1), x.name(-3, 1, 2), x.row(), x.term(-1, 0, -1, 1), x.future(3, false));
        for (int i = 0; i < 8; i++) put(all, x.told(i));
        put(all, x.begin(1, 0));
        return all.toString();
    }

    private static void put(StringBuilder all, int... answers) {
        for (int each : answers) all.append(each).append(' ');
    }

    private static FutureSets begun(int f, int s) {
        FutureSets x = new FutureSets();
        x.begin(f, s);
        return x;
    }

    /**
     * Two first choices and one second; names 0 (-2 0 3) and 1 (-1 2 4); row 0: 1 - choice 0 - choice 1; row 1:
     * name 0 - 2 * choice 2 - 1; cost: 2 * choice 0 + name 1 * choice 1 + 5 * choice 2. Budget 1. Futures: 0 usual,
     * odds 10; 1 kept, odds 30, name 1 is 0; 2 odds 5, name 0 is 3, name 1 is 1.
     */
    private static FutureSets sample() {
        FutureSets x = begun(2, 1);
        x.name(-2, 0, 3);
        x.name(-1, 2, 4);
        x.row();
        x.row();
        x.term(0, -1, -1, 1);
        x.term(0, 0, -1, -1);
        x.term(0, 1, -1, -1);
        x.term(1, -1, 0, 1);
        x.term(1, 2, -1, -2);
        x.term(1, -1, -1, -1);
        x.term(-1, 0, -1, 2);
        x.term(-1, 1, 1, 1);
        x.term(-1, 2, -1, 5);
        x.budget(1);
        x.future(10, false);
        x.future(30, true);
        x.future(5, false);
        x.set(1, 1, 0);
        x.set(2, 0, 3);
        x.set(2, 1, 1);
        return x;
    }

    /** As many names, rows, terms and futures as there may be; names are set to another than usual. */
    private static FutureSets full() {
        FutureSets x = begun(1, 1);
        for (int i = 0; i < 12; i++) x.name(-i, 0, i + 1);
        for (int i = 0; i < 10; i++) x.row();
        for (int i = 0; i < 40; i++) x.term(i % 11 - 1, i % 3 - 1, i % 13 - 1, i % 5 - 3);
        for (int i = 0; i < 8; i++) {
            x.future(i + 1, i == 3);
            x.set(i, i, 1);
        }
        x.budget(12);
        return x;
    }

    /** As sample(), but that row 1 is name 0 - 2 * choice 2 + 2: it holds in no way in future 2, nor in all of the set. */
    private static FutureSets hopeless() {
        FutureSets x = sample();
        x.term(1, -1, -1, 3);
        return x;
    }

    /** As sample(), but that row 1 is name 0 - 2 * choice 2: no first part has an answer in future 2. */
    private static FutureSets stuckInOne() {
        FutureSets x = sample();
        x.term(1, -1, -1, 1);
        return x;
    }

    /** A first and a second choice, a row, a term, and two futures that are kept. */
    private static FutureSets allKept() {
        FutureSets x = begun(1, 1);
        x.row();
        x.term(-1, 0, -1, -3);
        x.future(5, true);
        x.future(6, true);
        return x;
    }

    // ---- the whole document

    private static void constantsAreAsTold() {
        about("BAD = -1000000001, FULL = -1000000002, NONE = -1000000003");
        due("BAD", FutureSets.BAD, BAD);
        due("FULL", FutureSets.FULL, FULL);
        due("NONE", FutureSets.NONE, NONE);
    }

    private static void fiveHundredAndTwelveCalls() {
        about("An object is used for at most 512 calls");
        FutureSets x = begun(6, 4);
        x.name(0, 1, 2);
        x.term(-1, 9, 0, -1);
        x.budget(1);
        x.future(1, false);
        for (int i = 5; i < 508; i++) due("call " + i + ", told(2)", x.told(2), 1);
        due("call 508, worst(512, -1)", x.worst(512, -1), 0);
        due("call 509, answer(63, 0)", x.answer(63, 0), 575);
        due("call 510, set(0, 0, 2)", x.set(0, 0, 2), 1);
        due("call 511, begin(1, 0)", x.begin(1, 0), 1);
        due("call 512, told(3)", x.told(3), 0);
    }

    // ---- terms

    private static void namesAreTwelveAtMost() {
        about("NAMES 0 .. 11 at most");
        FutureSets x = new FutureSets();
        for (int i = 0; i < 12; i++) due("name " + i, x.name(i, i, i), i);
        due("one more", x.name(0, 0, 0), FULL);
        due("term of name 11", x.term(-1, -1, 11, 1), 1);
        due("what name 11 is", x.comes(0, -1, -1), 11);
        due("term of name 12", x.term(-1, -1, 12, 1), BAD);
    }

    private static void numbersAreFromMinus100To100() {
        about("LEAST, USUAL, GREATEST (whole, -100 .. 100");
        FutureSets x = new FutureSets();
        due("name(-100, 0, 100)", x.name(-100, 0, 100), 0);
        due("name(-100, -100, -100)", x.name(-100, -100, -100), 1);
        due("name(100, 100, 100)", x.name(100, 100, 100), 2);
        int[][] bad = {{-101, 0, 0}, {-101, -100, 0}, {0, 0, 101}, {0, 100, 101}, {0, 101, 101}, {-101, -101, 0},
            {-101, -101, -101}, {101, 101, 101}, {MIN, 0, 0}, {0, 0, MAX}, {MIN, MIN, MIN}, {MAX, MAX, MAX}, {MIN, 0, MAX}};
        for (int[] each : bad) refusedName(each);
    }

    private static void refusedName(int[] of) {
        String call = "name(" + of[0] + ", " + of[1] + ", " + of[2] + ")";
        refused(BoundaryTests::sample, call, x -> x.name(of[0], of[1], of[2]), BAD);
    }

    private static void numbersAreInThisOrder() {
        about("LEAST, USUAL, GREATEST (.. in this order");
        due("name(1, 2, 3)", new FutureSets().name(1, 2, 3), 0);
        int[][] bad = {{1, 0, 1}, {1, 0, 2}, {0, 1, 0}, {-1, 1, 0}, {1, 1, 0}, {1, 0, 0}, {2, 1, 0}, {1, 3, 2}, {3, 1, 2},
            {2, 3, 1}, {100, 0, -100}};
        for (int[] each : bad) refusedName(each);
    }

    private static void numbersMayBeTheSame() {
        about("LEAST, USUAL, GREATEST (.. may be the same)");
        FutureSets x = new FutureSets();
        due("name(5, 5, 5)", x.name(5, 5, 5), 0);
        due("name(5, 5, 6)", x.name(5, 5, 6), 1);
        due("name(4, 5, 5)", x.name(4, 5, 5), 2);
        x.budget(12);
        for (int i = 0; i < 3; i++) x.term(-1, -1, i, 1);
        due("worst(0, -1)", x.worst(0, -1), 16);
        for (int i = 0; i < 3; i++) x.term(-1, -1, i, -2);
        due("worst(0, -1), turned", x.worst(0, -1), -14);
    }

    private static void aFutureKeepsToLeastAndGreatest() {
        about("A FUTURE gives each NAME a whole number from its LEAST to its GREATEST");
        FutureSets x = sample();
        due("set to the least", x.set(0, 0, -2), 0);
        due("set to the greatest", x.set(0, 0, 3), -2);
        refused(BoundaryTests::sample, "set below the least", y -> y.set(0, 0, -3), BAD);
        refused(BoundaryTests::sample, "set above the greatest", y -> y.set(0, 0, 4), BAD);
        refused(BoundaryTests::sample, "set to what another name may be", y -> y.set(0, 1, -2), BAD);
        x.term(-1, -1, 0, 1);
        due("the worst is at the greatest", x.worstName(0, -1, 0), 3);
        x.term(-1, -1, 0, -2);
        due("the worst is at the least", x.worstName(0, -1, 0), -2);
    }

    private static void theSetHasAtMostBudgetOthers() {
        about("THE SET are all FUTURES in which at most BUDGET NAMES are not USUAL");
        FutureSets x = new FutureSets();
        for (int i = 0; i < 12; i++) {
            x.name(0, 0, 1);
            x.term(-1, -1, i, 1);
        }
        for (int n = 0; n <= 12; n++) {
            x.budget(n);
            due("worst(0, -1), budget " + n + " of 12 names", x.worst(0, -1), n);
        }
        FutureSets two = new FutureSets();
        two.name(0, 0, 1);
        two.term(-1, -1, two.name(0, 0, 1), 1);
        two.term(-1, -1, 0, 1);
        int[] want = {0, 1, 2, 2, 2};
        for (int n = 0; n < want.length; n++) {
            two.budget(n);
            due("worst(0, -1), budget " + n + " of 2 names", two.worst(0, -1), want[n]);
        }
        two.budget(12);
        due("worst(0, -1), budget 12 of 2 names", two.worst(0, -1), 2);
    }

    private static void firstChoicesAreOneToSix() {
        about("FIRST ones 0 .. F - 1 (F is 1 .. 6)");
        for (int f = 1; f <= 6; f++) {
            FutureSets x = begun(f, 0);
            due("told(5), f " + f, x.told(5), f);
            due("term of the last choice, f " + f, x.term(-1, f - 1, -1, 7), 1);
            due("term of one more, f " + f, x.term(-1, f, -1, 7), BAD);
            due("comes with it alone, f " + f, x.comes(1 << f - 1, -1, -1), 7);
            due("comes with all others, f " + f, x.comes((1 << f - 1) - 1, -1, -1), 0);
        }
        due("begin(0, 0)", new FutureSets().begin(0, 0), BAD);
        due("begin(7, 0)", new FutureSets().begin(7, 0), BAD);
    }

    private static void secondChoicesAreNoneToFour() {
        about("SECOND ones F .. F + S - 1 (S is 0 .. 4)");
        for (int s = 0; s <= 4; s++) {
            FutureSets x = begun(2, s);
            due("told(6), s " + s, x.told(6), s);
            due("term of the last choice, s " + s, x.term(-1, 1 + s, -1, 7), 1);
            due("term of one more, s " + s, x.term(-1, 2 + s, -1, 7), BAD);
            due("comes with it alone, s " + s, x.comes(1 << 1 + s, -1, -1), 7);
            due("comes with all others, s " + s, x.comes((1 << 1 + s) - 1, -1, -1), 0);
        }
        due("begin(1, -1)", new FutureSets().begin(1, -1), BAD);
        due("begin(1, 5)", new FutureSets().begin(1, 5), BAD);
    }

    private static void bitsFromFPlusSOnAreZero() {
        about("A PLAN is a number: its bit j is CHOICE j (bits from F + S on are 0)");
        for (int f = 1; f <= 6; f++) {
            for (int s = 0; s <= 4; s++) {
                FutureSets x = begun(f, s);
                for (int j = 0; j < f + s; j++) x.term(-1, j, -1, j + 1);
                x.future(1, false);
                int end = 1 << f + s;
                String at = ", begin(" + f + ", " + s + ")";
                due("comes with all choices" + at, x.comes(end - 1, -1, -1), (f + s) * (f + s + 1) / 2);
                for (int j = 0; j < f + s; j++) due("comes with choice " + j + at, x.comes(1 << j, -1, 0), j + 1);
                int[] noPlans = {end, end + 1, end | end - 1, -1, MIN, MAX, 1 << 30, -end};
                for (int plan : noPlans) {
                    due("comes(" + plan + ")" + at, x.comes(plan, -1, -1), BAD);
                    due("worst(" + plan + ")" + at, x.worst(plan, -1), BAD);
                    due("breaks(" + plan + ")" + at, x.breaks(plan), BAD);
                    due("chance(" + plan + ")" + at, x.chance(plan, 0), BAD);
                }
            }
        }
    }

    private static void firstPartIsBelowF() {
        about("its FIRST PART are its bits below F");
        for (int f = 1; f <= 6; f++) {
            FutureSets x = begun(f, 4);
            x.future(1, false);
            int end = 1 << f;
            due("answer(" + (end - 1) + ", 0), f " + f, x.answer(end - 1, 0), end - 1);
            due("regret(" + (end - 1) + "), f " + f, x.regret(end - 1), 0);
            due("mean(" + (end - 1) + ", 1), f " + f, x.mean(end - 1, 1), 1);
            int[] noFirstParts = {end, end + 1, -1, MIN, MAX};
            for (int first : noFirstParts) {
                due("answer(" + first + ", 0), f " + f, x.answer(first, 0), BAD);
                due("regret(" + first + "), f " + f, x.regret(first), BAD);
                due("mean(" + first + ", 0), f " + f, x.mean(first, 0), BAD);
            }
        }
    }

    private static void secondPartStandsAsItIs() {
        about("its SECOND PART the others (as they stand)");
        for (int f = 1; f <= 6; f++) {
            FutureSets x = begun(f, 4);
            x.future(1, false);
            x.term(-1, f + 3, -1, -1);
            due("answer(1, 0), f " + f, x.answer(1, 0), 1 | 1 << f + 3);
            x.term(-1, f, -1, -1);
            due("answer(0, 0), f " + f, x.answer(0, 0), 9 << f);
        }
        FutureSets none = begun(3, 0);
        none.future(1, false);
        for (int first = 0; first < 8; first++) due("answer(" + first + ", 0), no second ones", none.answer(first, 0), first);
    }

    private static void rowsAreTenAtMost() {
        about("ROWS 0 .. 9 at most");
        FutureSets x = new FutureSets();
        for (int i = 0; i < 10; i++) due("row " + i, x.row(), i);
        due("one more", x.row(), FULL);
        due("term of row 9", x.term(9, -1, -1, 4), 1);
        due("comes(0, 9, -1)", x.comes(0, 9, -1), 4);
        due("worst(0, 9)", x.worst(0, 9), 4);
        due("breaks(0)", x.breaks(0), 9);
        due("term of row 10", x.term(10, -1, -1, 4), BAD);
        due("comes(0, 10, -1)", x.comes(0, 10, -1), BAD);
        due("worst(0, 10)", x.worst(0, 10), BAD);
    }

    private static void termsAreFortyAtMost() {
        about("TERMS (40 at most) are of a ROW or of THE COST");
        FutureSets x = new FutureSets();
        x.row();
        for (int i = 1; i <= 40; i++) due("term " + i, x.term(i % 2 - 1, -1, -1, 1), i);
        due("one more of the row", x.term(0, -1, -1, 1), FULL);
        due("one more of the cost", x.term(-1, -1, -1, 1), FULL);
        due("comes(0, 0, -1)", x.comes(0, 0, -1), 20);
        due("comes(0, -1, -1)", x.comes(0, -1, -1), 20);
        due("worst(0, 0)", x.worst(0, 0), 20);
        due("worst(0, -1)", x.worst(0, -1), 20);
    }

    private static void factorsAreFromMinus20To20() {
        about("a FACTOR (-20 .. 20)");
        int[] good = {-20, -19, -1, 0, 1, 19, 20};
        for (int factor : good) {
            FutureSets x = sample();
            due("term(0, -1, -1, " + factor + ")", x.term(0, -1, -1, factor), 10);
            due("comes(0, 0, -1)", x.comes(0, 0, -1), 1 + factor);
        }
        int[] bad = {-21, 21, MIN, MAX};
        for (int factor : bad) {
            refused(BoundaryTests::sample, "term(0, -1, -1, " + factor + ")", x -> x.term(0, -1, -1, factor), BAD);
        }
    }

    private static void aTermMayHaveNoChoiceAndNoName() {
        about("times a CHOICE if it has one, times a NAME's number if it has one");
        FutureSets x = begun(1, 1);
        x.name(3, 4, 5);
        int[][] terms = {{-1, -1, 1}, {1, -1, 10}, {-1, 0, 20}, {1, 0, 7}};
        int[] without = {1, 1, 81, 81}, with = {1, 11, 91, 119};
        for (int i = 0; i < terms.length; i++) {
            due("term " + i, x.term(-1, terms[i][0], terms[i][1], terms[i][2]), i + 1);
            due("comes without choice 1, terms to " + i, x.comes(1, -1, -1), without[i]);
            due("comes with choice 1, terms to " + i, x.comes(2, -1, -1), with[i]);
        }
    }

    private static void aRowWithoutTermsComesToZero() {
        about("COMES TO the sum of its TERMS (0 without)");
        FutureSets x = begun(1, 0);
        x.row();
        x.row();
        x.name(1, 1, 2);
        x.future(1, false);
        x.budget(1);
        x.term(1, -1, 0, 1);
        due("comes(1, 0, -1)", x.comes(1, 0, -1), 0);
        due("comes(1, 0, 0)", x.comes(1, 0, 0), 0);
        due("worst(1, 0)", x.worst(1, 0), 0);
        due("comes(1, -1, 0), the cost", x.comes(1, -1, 0), 0);
        due("worst(1, -1), the cost", x.worst(1, -1), 0);
        due("breaks(1), row 0 holds", x.breaks(1), 1);
    }

    private static void aRowHoldsAtZero() {
        about("a ROW HOLDS if that is at most 0");
        int[] comesTo = {-1, 0, 1};
        int[] breaks = {NONE, NONE, 0}, safest = {0, 0, NONE}, chance = {1, 1, 0};
        for (int i = 0; i < 3; i++) {
            FutureSets x = begun(1, 0);
            x.row();
            x.future(1, false);
            x.term(0, -1, -1, comesTo[i]);
            String at = ", a row that comes to " + comesTo[i];
            due("breaks(0)" + at, x.breaks(0), breaks[i]);
            due("safest()" + at, x.safest(), safest[i]);
            due("answer(0, 0)" + at, x.answer(0, 0), safest[i]);
            due("twoStep()" + at, x.twoStep(), safest[i]);
            due("calmest()" + at, x.calmest(), safest[i]);
            due("best(0)" + at, x.best(0), safest[i]);
            due("chance(0, 0)" + at, x.chance(0, 0), chance[i]);
        }
    }

    /** 40 terms of factor 20 and a number of 100 in a row or the cost, and odds of 800. */
    private static void theGreatestSums() {
        about("FACTOR (-20 .. 20) .. (whole, -100 .. 100) .. TERMS (40 at most) .. ODDS (1 .. 100): all at their greatest");
        int[] signs = {1, -1};
        for (int sign : signs) {
            FutureSets x = begun(1, 0);
            x.name(-100, 0, 100);
            x.budget(1);
            for (int i = 0; i < 40; i++) x.term(-1, -1, 0, 20 * sign);
            due("worst(0, -1)", x.worst(0, -1), 80000);
            due("worstName(0, -1, 0)", x.worstName(0, -1, 0), 100 * sign);
            for (int i = 0; i < 8; i++) {
                x.future(100, false);
                x.set(i, 0, 100);
            }
            due("comes(0, -1, 7)", x.comes(0, -1, 7), 80000 * sign);
            due("best(7)", x.best(7), 80000 * sign);
            dueFraction("mean(0)", x.mean(0, 0), x.mean(0, 1), 80000 * sign, 1);
            dueFraction("waiting", x.waiting(0), x.waiting(1), 0, 1);
        }
        FutureSets far = begun(1, 0);
        far.name(-100, -100, 100);
        far.budget(1);
        for (int i = 0; i < 40; i++) far.term(-1, 0, 0, 20);
        due("comes(1, -1, -1), far", far.comes(1, -1, -1), -80000);
        due("worst(1, -1), far", far.worst(1, -1), 80000);
        far.future(100, false);
        far.future(99, false);
        far.set(0, 0, 100);
        due("regret(1): 80000 above 0", far.regret(1), 80000);
        due("regret(0): 0 above -80000", far.regret(0), 80000);
        dueFraction("mean(1)", far.mean(1, 0), far.mean(1, 1), 80000, 199);
    }

    // ---- whatever comes

    private static void safeIsInAllFuturesOfTheSet() {
        about("SAFE is a PLAN all ROWS of which HOLD in all FUTURES of THE SET");
        FutureSets noRows = begun(1, 0);
        due("breaks(1) without rows", noRows.breaks(1), NONE);
        FutureSets x = begun(1, 0);
        x.row();
        x.row();
        for (int i = 0; i < 2; i++) x.term(1, -1, x.name(0, 0, 1), 1);
        x.term(1, -1, -1, -1);
        int[] want = {NONE, NONE, 1, 1};
        for (int n = 0; n < want.length; n++) {
            x.budget(n);
            due("breaks(0), budget " + n, x.breaks(0), want[n]);
            due("safest(), budget " + n, x.safest(), want[n] == NONE ? 0 : NONE);
        }
        x.budget(1);
        x.future(1, false);
        x.set(0, 0, 1);
        x.set(0, 1, 1);
        due("breaks(0): a listed future outside the set", x.breaks(0), NONE);
        due("answer(0, 0): the same future", x.answer(0, 0), NONE);
    }

    private static void worstIsTheGreatestOfTheSet() {
        about("THE WORST of a ROW (of THE COST) with a PLAN: the greatest that it COMES TO in FUTURES of THE SET");
        FutureSets x = begun(1, 0);
        x.row();
        x.name(-3, 1, 2);
        x.name(-1, 0, 9);
        x.term(0, -1, 0, -2);
        x.term(0, 0, 1, 1);
        x.term(0, -1, -1, -20);
        int[][] want = {{-22, -22}, {-14, -13}, {-14, -5}, {-14, -5}};
        for (int n = 0; n < want.length; n++) {
            x.budget(n);
            due("worst(0, 0), budget " + n, x.worst(0, 0), want[n][0]);
            due("worst(1, 0), budget " + n, x.worst(1, 0), want[n][1]);
        }
        FutureSets noNames = begun(1, 0);
        noNames.budget(12);
        noNames.term(-1, 0, -1, -4);
        due("worst(1, -1) without names", noNames.worst(1, -1), -4);
    }

    /** Names 0 .. 3 from -1 to 1, usually 0, in the cost with these factors. */
    private static FutureSets weighed(int budget, int... factors) {
        FutureSets x = begun(1, 0);
        for (int i = 0; i < factors.length; i++) {
            x.name(-1, 0, 1);
            x.term(-1, -1, i, factors[i]);
        }
        x.budget(budget);
        return x;
    }

    private static void dueWorstFuture(FutureSets x, int plan, int... want) {
        for (int i = 0; i < want.length; i++) {
            due("worstName(" + plan + ", -1, " + i + "), budget " + x.told(7), x.worstName(plan, -1, i), want[i]);
        }
    }

    private static void worstFutureHasTheFewestOthers() {
        about("THE WORST FUTURE is that in which it COMES TO that and the fewest NAMES are not USUAL");
        dueWorstFuture(weighed(4, 0, 5, 0, -5), 0, 0, 1, 0, -1);
        dueWorstFuture(weighed(12, 0, 0, 0, 0), 0, 0, 0, 0, 0);
        dueWorstFuture(weighed(0, 1, 1, 1, 1), 0, 0, 0, 0, 0);
        FutureSets cancelled = weighed(4, 3, 2, 1);
        cancelled.term(-1, -1, 0, -3);
        dueWorstFuture(cancelled, 0, 0, 1, 1);
        FutureSets notTaken = weighed(4, 0, 1);
        notTaken.term(-1, 0, 0, 6);
        dueWorstFuture(notTaken, 0, 0, 1);
        dueWorstFuture(notTaken, 1, 1, 1);
        FutureSets atTheEnd = begun(1, 0);
        atTheEnd.name(-1, 1, 1);
        atTheEnd.name(-1, -1, 1);
        atTheEnd.term(-1, -1, 0, 1);
        atTheEnd.term(-1, -1, 1, -1);
        atTheEnd.budget(2);
        dueWorstFuture(atTheEnd, 0, 1, -1);
    }

    private static void worstFutureTakesTheLeastNames() {
        about("of several the one whose row of NAMES that are not USUAL (by numbers, lesser first) is least");
        dueWorstFuture(weighed(1, 2, 2, -2, 2), 0, 1, 0, 0, 0);
        dueWorstFuture(weighed(2, 2, 2, -2, 2), 0, 1, 1, 0, 0);
        dueWorstFuture(weighed(3, 2, 2, -2, 2), 0, 1, 1, -1, 0);
        dueWorstFuture(weighed(2, 1, 2, -1, 3), 0, 0, 1, 0, 1);
        dueWorstFuture(weighed(3, 1, 2, -1, 3), 0, 1, 1, 0, 1);
        dueWorstFuture(weighed(1, 0, -2, 2, 1), 0, 0, -1, 0, 0);
        dueWorstFuture(weighed(2, 0, 1, 2, 1), 0, 0, 1, 1, 0);
        FutureSets twelve = weighed(11, 1, 1, 1, 1, 1, 1, 1, 1, 1, 1, 1, 1);
        dueWorstFuture(twelve, 0, 1, 1, 1, 1, 1, 1, 1, 1, 1, 1, 1, 0);
        twelve.term(-1, -1, 11, 1);
        dueWorstFuture(twelve, 0, 1, 1, 1, 1, 1, 1, 1, 1, 1, 1, 0, 1);
        // The same gain by another way: factor 2 and a step of 3, factor 3 and a step of 2.
        FutureSets gains = begun(1, 0);
        gains.name(0, 1, 3);
        gains.name(0, 0, 3);
        gains.name(-1, 1, 1);
        gains.budget(1);
        gains.term(-1, -1, 0, 3);
        gains.term(-1, -1, 1, 2);
        gains.term(-1, -1, 2, -3);
        dueWorstFuture(gains, 0, 3, 0, 1);
    }

    /** A sum grows with a name's number or falls with it, so that two numbers of one name never come to the same. */
    private static void worstFutureHasOneNumberForEachName() {
        about("of these the one with the least number at the first NAME where two differ");
        FutureSets x = begun(1, 0);
        x.name(-7, 0, 7);
        x.budget(1);
        dueWorstFuture(x, 0, 0);
        x.term(-1, -1, 0, -1);
        dueWorstFuture(x, 0, -7);
        x.term(-1, -1, 0, 2);
        dueWorstFuture(x, 0, 7);
    }

    private static void safestOfSeveralIsTheLeast() {
        about("of all SAFE ones that of which THE WORST of THE COST is least; of several the least number");
        FutureSets x = begun(2, 1);
        due("safest(): all cost 0", x.safest(), 0);
        x.row();
        x.term(0, -1, -1, 1);
        x.term(0, 1, -1, -1);
        x.term(0, 2, -1, -1);
        due("safest(): 2 .. 7 are safe and cost 0", x.safest(), 2);
        x.term(-1, 1, -1, 1);
        due("safest(): 4 and 5 cost 0", x.safest(), 4);
        int risky = x.name(0, 0, 5);
        x.term(-1, 2, risky, 1);
        due("safest(): 4 costs 0 as long as all is usual", x.safest(), 4);
        x.budget(1);
        due("safest(): 4 may cost 5, 2 costs 1", x.safest(), 2);
        x.term(-1, -1, -1, -20);
        due("safest(): the same below 0", x.safest(), 2);
        x.term(-1, 0, -1, -1);
        due("safest(): 3 is one less", x.safest(), 3);
    }

    // ---- by what is listed

    private static void listedFuturesAreEightAtMost() {
        about("LISTED FUTURES 0 .. 7 at most");
        FutureSets x = begun(1, 0);
        for (int i = 0; i < 8; i++) due("future " + i, x.future(1, i % 2 == 0), i);
        due("one more", x.future(1, false), FULL);
        due("one more, kept", x.future(1, true), FULL);
        due("answer(0, 7)", x.answer(0, 7), 0);
        due("best(7)", x.best(7), 0);
        due("comes(0, -1, 7)", x.comes(0, -1, 7), 0);
        due("answer(0, 8)", x.answer(0, 8), BAD);
        due("best(8)", x.best(8), BAD);
        due("comes(0, -1, 8)", x.comes(0, -1, 8), BAD);
    }

    /** Row 0 holds where name 0 is 0. */
    private static FutureSets withBreaking(int... odds) {
        FutureSets x = begun(1, 0);
        x.row();
        x.term(0, -1, x.name(0, 0, 1), 1);
        for (int each : odds) x.future(each, false);
        return x;
    }

    private static void oddsAreFrom1To100() {
        about("each with ODDS (1 .. 100)");
        FutureSets x = withBreaking(1, 100);
        x.set(0, 0, 1);
        dueFraction("chance(0)", x.chance(0, 0), x.chance(0, 1), 100, 101);
        int[] bad = {0, 101, -1, -100, MIN, MAX};
        for (int odds : bad) {
            refused(BoundaryTests::sample, "future(" + odds + ", false)", y -> y.future(odds, false), BAD);
            refused(BoundaryTests::sample, "future(" + odds + ", true)", y -> y.future(odds, true), BAD);
        }
    }

    private static void keptFuturesAreNotCounted() {
        about("some are KEPT. COUNTED are those that are not KEPT");
        FutureSets x = withBreaking(3);
        due("future(90, true)", x.future(90, true), 1);
        x.set(1, 0, 1);
        x.term(-1, -1, 0, 8);
        due("told(3)", x.told(3), 2);
        due("told(4)", x.told(4), 1);
        due("answer(0, 1), none in the kept one", x.answer(0, 1), NONE);
        due("twoStep()", x.twoStep(), 0);
        due("calmest()", x.calmest(), 0);
        due("regret(0)", x.regret(0), 0);
        dueFraction("mean(0)", x.mean(0, 0), x.mean(0, 1), 0, 1);
        dueFraction("waiting", x.waiting(0), x.waiting(1), 0, 1);
        dueFraction("chance(0)", x.chance(0, 0), x.chance(0, 1), 1, 1);
        x.future(2, false);
        x.set(2, 0, 1);
        due("told(4), one more", x.told(4), 2);
        due("twoStep(), one more", x.twoStep(), NONE);
        dueFraction("chance(0), one more", x.chance(0, 0), x.chance(0, 1), 3, 5);
    }

    private static void answerOfSeveralIsTheLeast() {
        about("THE ANSWER .. that of least COST there; of several the least number");
        FutureSets x = begun(1, 2);
        x.future(1, false);
        due("answer(1, 0): all cost 0", x.answer(1, 0), 1);
        x.row();
        x.term(0, -1, -1, 1);
        x.term(0, 1, -1, -1);
        x.term(0, 2, -1, -1);
        due("answer(1, 0): 3, 5, 7 hold and cost 0", x.answer(1, 0), 3);
        x.term(-1, 1, -1, 2);
        due("answer(1, 0): 5 costs 0", x.answer(1, 0), 5);
        int name = x.name(0, 0, 2);
        x.term(-1, 2, name, 1);
        x.future(1, false);
        x.set(1, name, 2);
        due("answer(1, 0): its own future's cost", x.answer(1, 0), 5);
        due("answer(1, 1): 3 and 5 cost 2 there", x.answer(1, 1), 3);
    }

    private static void answerMayBeNone() {
        about("THE ANSWER .. It may have none");
        FutureSets x = sample();
        due("answer(0, 0)", x.answer(0, 0), NONE);
        due("answer(1, 0)", x.answer(1, 0), 1);
        due("stuck, answer(1, 2)", stuckInOne().answer(1, 2), NONE);
        due("stuck, answer(1, 1)", stuckInOne().answer(1, 1), 1);
        due("hopeless, answer(3, 0)", hopeless().answer(3, 0), 7);
        due("hopeless, answer(3, 2)", hopeless().answer(3, 2), NONE);
    }

    private static void twoStepNeedsAllAnswers() {
        about("THE TWO-STEP PLAN: of all FIRST PARTS that have an ANSWER in each COUNTED FUTURE");
        FutureSets x = withBreaking(100, 1);
        x.term(0, 0, -1, -1);
        x.term(-1, 0, -1, 20);
        due("twoStep(): 0 is cheaper", x.twoStep(), 0);
        x.set(1, 0, 1);
        due("twoStep(): 0 has no answer in the last", x.twoStep(), 1);
        x.set(1, 0, 0);
        x.set(0, 0, 1);
        due("twoStep(): 0 has no answer in the first", x.twoStep(), 1);
        x.set(0, 0, 0);
        x.future(100, true);
        x.set(2, 0, 1);
        due("twoStep(): 0 has no answer in a kept one", x.twoStep(), 0);
    }

    private static void twoStepOfSeveralIsTheLeast() {
        about("the sum of ODDS times COSTS .. is least; of several the least number");
        FutureSets x = begun(2, 1);
        x.future(2, false);
        x.future(3, false);
        due("twoStep(): all 0", x.twoStep(), 0);
        int name = x.name(0, 0, 3);
        x.term(-1, -1, -1, 1);
        x.term(-1, 0, -1, -1);
        x.term(-1, 0, name, 1);
        x.set(0, name, 2);
        due("twoStep(): 0 has 5, 1 has 4", x.twoStep(), 1);
        x.set(0, name, 3);
        due("twoStep(): 0 has 5, 1 has 6", x.twoStep(), 0);
        x.term(-1, 1, -1, -1);
        due("twoStep(): 2 has 0", x.twoStep(), 2);
        x.set(0, name, 0);
        due("twoStep(): 3 has -5", x.twoStep(), 3);
    }

    private static void bestIsOfAllFirstParts() {
        about("THE BEST in a FUTURE: the least COST of all PLANS whose ROWS all HOLD there");
        FutureSets x = begun(6, 4);
        x.future(1, false);
        due("best(0): all cost 0", x.best(0), 0);
        for (int j = 0; j < 10; j++) x.term(-1, j, -1, -1);
        due("best(0): the last plan", x.best(0), -10);
        x.row();
        x.term(0, 9, -1, 1);
        x.term(0, 0, -1, 1);
        x.term(0, -1, -1, -1);
        due("best(0): not both of choices 0 and 9", x.best(0), -9);
        x.term(0, -1, -1, 1);
        due("best(0): none of choices 0 and 9", x.best(0), -8);
        x.term(0, -1, -1, 1);
        due("best(0): none holds", x.best(0), NONE);
    }

    private static void regretIsTheGreatest() {
        about("REGRET of a FIRST PART: the greatest, over COUNTED FUTURES, that its ANSWER's COST is above THE BEST");
        FutureSets x = begun(1, 0);
        int name = x.name(-5, 0, 5);
        x.term(-1, 0, name, 1);
        x.future(1, false);
        due("regret(0): nothing is better", x.regret(0), 0);
        due("regret(1): nothing is better", x.regret(1), 0);
        x.future(100, false);
        x.set(1, name, 4);
        due("regret(1): 0 and 4", x.regret(1), 4);
        due("regret(0): 0 and 0", x.regret(0), 0);
        x.set(0, name, -5);
        due("regret(0): 5 and 0", x.regret(0), 5);
        due("regret(1): 0 and 4, the last one", x.regret(1), 4);
        x.future(1, true);
        x.set(2, name, 5);
        due("regret(1): a kept one would be 5", x.regret(1), 4);
    }

    private static void calmestNeedsAllAnswers() {
        about("THE CALMEST: of all FIRST PARTS with an ANSWER in each COUNTED FUTURE");
        FutureSets x = withBreaking(1, 1);
        x.term(0, 0, -1, -1);
        x.term(-1, 0, -1, 20);
        due("calmest(): 0 has regret 0", x.calmest(), 0);
        x.set(1, 0, 1);
        due("calmest(): 0 has no answer in the last", x.calmest(), 1);
        x.set(1, 0, 0);
        x.set(0, 0, 1);
        due("calmest(): 0 has no answer in the first", x.calmest(), 1);
        x.set(0, 0, 0);
        x.future(1, true);
        x.set(2, 0, 1);
        due("calmest(): 0 has no answer in a kept one", x.calmest(), 0);
    }

    private static void calmestOfSeveralIsTheLeast() {
        about("that of least REGRET; of several the least number");
        FutureSets x = begun(2, 0);
        int name = x.name(-5, 0, 5);
        x.future(1, false);
        x.future(100, false);
        due("calmest(): all have 0", x.calmest(), 0);
        x.term(-1, 0, name, 1);
        x.set(0, name, -4);
        x.set(1, name, 4);
        due("calmest(): all have 4", x.calmest(), 0);
        x.set(1, name, 3);
        due("calmest(): 1 and 3 have 3", x.calmest(), 1);
        x.term(-1, 1, -1, -1);
        due("calmest(): 3 has 3, 1 has 4", x.calmest(), 3);
    }

    private static void waitingIsOfCountedFutures() {
        about("WAITING: THE MEAN of THE TWO-STEP PLAN less the mean of THE BEST of each COUNTED FUTURE");
        FutureSets x = begun(1, 0);
        int name = x.name(-5, 0, 5);
        x.term(-1, 0, name, 1);
        x.future(2, false);
        dueFraction("waiting, one future", x.waiting(0), x.waiting(1), 0, 1);
        x.future(4, false);
        x.set(0, name, 5);
        x.set(1, name, -5);
        dueFraction("waiting: -10/6 less -20/6", x.waiting(0), x.waiting(1), 5, 3);
        x.set(1, name, -2);
        dueFraction("waiting: 0 less -8/6", x.waiting(0), x.waiting(1), 4, 3);
        x.future(100, true);
        x.set(2, name, -5);
        dueFraction("waiting, one more kept", x.waiting(0), x.waiting(1), 4, 3);
    }

    private static void chanceFromNoneToAll() {
        about("CHANCE of a PLAN: the ODDS of the COUNTED FUTURES in which all ROWS HOLD, divided by those of all");
        FutureSets x = withBreaking(7, 5);
        dueFraction("chance(1): in all", x.chance(1, 0), x.chance(1, 1), 1, 1);
        x.set(0, 0, 1);
        dueFraction("chance(1): in the last", x.chance(1, 0), x.chance(1, 1), 5, 12);
        x.set(1, 0, 1);
        dueFraction("chance(1): in none", x.chance(1, 0), x.chance(1, 1), 0, 1);
        x.row();
        x.term(0, 0, -1, -1);
        dueFraction("chance(1): row 0 comes to 0", x.chance(1, 0), x.chance(1, 1), 1, 1);
        x.term(1, 0, -1, 1);
        dueFraction("chance(1): row 1 does not hold", x.chance(1, 0), x.chance(1, 1), 0, 1);
        FutureSets noRows = begun(1, 0);
        noRows.future(9, false);
        dueFraction("chance(0) without rows", noRows.chance(0, 0), noRows.chance(0, 1), 1, 1);
    }

    private static void fractionsAreInLeastTerms() {
        about("Fractions are told in least terms");
        int[][] odds = {{6, 4}, {4, 6}, {50, 50}, {100, 1}, {1, 100}, {99, 66}, {36, 48}, {97, 89}, {64, 96}};
        int[][] want = {{3, 5}, {2, 5}, {1, 2}, {100, 101}, {1, 101}, {3, 5}, {3, 7}, {97, 186}, {2, 5}};
        for (int i = 0; i < odds.length; i++) {
            FutureSets x = withBreaking(odds[i]);
            x.set(1, 0, 1);
            dueFraction("chance, odds " + odds[i][0] + " of both", x.chance(0, 0), x.chance(0, 1), want[i][0], want[i][1]);
        }
        FutureSets mean = begun(1, 0);
        mean.term(-1, -1, mean.name(0, 0, 100), 20);
        for (int i = 0; i < 8; i++) mean.future(100, false);
        mean.set(7, 0, 1);
        dueFraction("mean(0): 2000/800", mean.mean(0, 0), mean.mean(0, 1), 5, 2);
        mean.set(7, 0, 4);
        dueFraction("mean(0): 8000/800", mean.mean(0, 0), mean.mean(0, 1), 10, 1);
        mean.set(7, 0, 0);
        dueFraction("mean(0): 0/800", mean.mean(0, 0), mean.mean(0, 1), 0, 1);
    }

    private static void belowIsAboveZero() {
        about("above (part 0) and below (part 1; above 0)");
        FutureSets x = begun(1, 0);
        x.term(-1, -1, x.name(-9, 0, 9), 1);
        x.future(4, false);
        x.future(6, false);
        x.set(0, 0, -1);
        dueFraction("mean(0): -4/10", x.mean(0, 0), x.mean(0, 1), -2, 5);
        x.set(1, 0, -9);
        dueFraction("mean(0): -58/10", x.mean(0, 0), x.mean(0, 1), -29, 5);
        x.set(0, 0, -9);
        dueFraction("mean(0): -90/10", x.mean(0, 0), x.mean(0, 1), -9, 1);
        x.set(0, 0, 9);
        dueFraction("mean(0): -18/10", x.mean(0, 0), x.mean(0, 1), -9, 5);
    }

    // ---- refusals

    private static void badComesBeforeFull() {
        about("REFUSALS are answers, of several the first in this order: BAD .., FULL");
        refused(BoundaryTests::full, "name(1, 0, 0)", x -> x.name(1, 0, 0), BAD);
        refused(BoundaryTests::full, "name(0, 0, 101)", x -> x.name(0, 0, 101), BAD);
        refused(BoundaryTests::full, "term(10, -1, -1, 1)", x -> x.term(10, -1, -1, 1), BAD);
        refused(BoundaryTests::full, "term(-2, -1, -1, 1)", x -> x.term(-2, -1, -1, 1), BAD);
        refused(BoundaryTests::full, "term(0, 2, -1, 1)", x -> x.term(0, 2, -1, 1), BAD);
        refused(BoundaryTests::full, "term(0, -1, 12, 1)", x -> x.term(0, -1, 12, 1), BAD);
        refused(BoundaryTests::full, "term(0, -1, -1, 21)", x -> x.term(0, -1, -1, 21), BAD);
        refused(BoundaryTests::full, "future(0, false)", x -> x.future(0, false), BAD);
        refused(BoundaryTests::full, "future(101, true)", x -> x.future(101, true), BAD);
    }

    private static void badComesBeforeNone() {
        about("REFUSALS are answers, of several the first in this order: BAD .., NONE");
        refused(BoundaryTests::hopeless, "answer(4, 2)", x -> x.answer(4, 2), BAD);
        refused(BoundaryTests::hopeless, "mean(0, 2)", x -> x.mean(0, 2), BAD);
        refused(BoundaryTests::hopeless, "mean(4, 0)", x -> x.mean(4, 0), BAD);
        refused(BoundaryTests::hopeless, "regret(4)", x -> x.regret(4), BAD);
        refused(BoundaryTests::hopeless, "waiting(2)", x -> x.waiting(2), BAD);
        refused(BoundaryTests::hopeless, "waiting(-1)", x -> x.waiting(-1), BAD);
        refused(BoundaryTests::allKept, "mean(0, 2)", x -> x.mean(0, 2), BAD);
        refused(BoundaryTests::allKept, "mean(0, -1)", x -> x.mean(0, -1), BAD);
        refused(BoundaryTests::allKept, "mean(2, 0)", x -> x.mean(2, 0), BAD);
        refused(BoundaryTests::allKept, "regret(2)", x -> x.regret(2), BAD);
        refused(BoundaryTests::allKept, "waiting(2)", x -> x.waiting(2), BAD);
        refused(BoundaryTests::allKept, "chance(4, 0)", x -> x.chance(4, 0), BAD);
        refused(BoundaryTests::allKept, "chance(0, 2)", x -> x.chance(0, 2), BAD);
        refused(FutureSets::new, "answer(0, 0)", x -> x.answer(0, 0), BAD);
        refused(FutureSets::new, "best(0)", x -> x.best(0), BAD);
        refused(FutureSets::new, "chance(2, 0)", x -> x.chance(2, 0), BAD);
    }

    private static void badChangesNothing() {
        about("REFUSALS .. BAD (a number is not as told, there is no such thing) .. change nothing");
        refused(FutureSets::new, "begin(0, 0)", x -> x.begin(0, 0), BAD);
        refused(FutureSets::new, "name(1, 0, 1)", x -> x.name(1, 0, 1), BAD);
        refused(FutureSets::new, "budget(13)", x -> x.budget(13), BAD);
        refused(FutureSets::new, "term(0, -1, -1, 1)", x -> x.term(0, -1, -1, 1), BAD);
        refused(FutureSets::new, "future(0, false)", x -> x.future(0, false), BAD);
        refused(FutureSets::new, "set(0, 0, 0)", x -> x.set(0, 0, 0), BAD);
        refused(FutureSets::new, "told(8)", x -> x.told(8), BAD);
        refused(FutureSets::new, "comes(0, 0, -1)", x -> x.comes(0, 0, -1), BAD);
        refused(FutureSets::new, "worst(0, 0)", x -> x.worst(0, 0), BAD);
        refused(FutureSets::new, "worstName(0, -1, 0)", x -> x.worstName(0, -1, 0), BAD);
        refused(FutureSets::new, "breaks(2)", x -> x.breaks(2), BAD);
        refused(FutureSets::new, "mean(2, 0)", x -> x.mean(2, 0), BAD);
        refused(FutureSets::new, "regret(2)", x -> x.regret(2), BAD);
        refused(FutureSets::new, "waiting(2)", x -> x.waiting(2), BAD);
        refused(FutureSets::new, "chance(0, 2)", x -> x.chance(0, 2), BAD);
    }

    private static void fullChangesNothing() {
        about("REFUSALS .. FULL .. change nothing");
        refused(BoundaryTests::full, "name(-5, 4, 9)", x -> x.name(-5, 4, 9), FULL);
        refused(BoundaryTests::full, "row()", FutureSets::row, FULL);
        refused(BoundaryTests::full, "term(-1, 0, 0, 5)", x -> x.term(-1, 0, 0, 5), FULL);
        refused(BoundaryTests::full, "term(9, -1, -1, 5)", x -> x.term(9, -1, -1, 5), FULL);
        refused(BoundaryTests::full, "future(50, false)", x -> x.future(50, false), FULL);
        refused(BoundaryTests::full, "future(50, true)", x -> x.future(50, true), FULL);
    }

    private static void noneChangesNothing() {
        about("REFUSALS .. NONE (as a call tells). They change nothing");
        refused(BoundaryTests::hopeless, "safest()", FutureSets::safest, NONE);
        refused(BoundaryTests::hopeless, "answer(0, 2)", x -> x.answer(0, 2), NONE);
        refused(BoundaryTests::hopeless, "twoStep()", FutureSets::twoStep, NONE);
        refused(BoundaryTests::hopeless, "mean(1, 0)", x -> x.mean(1, 0), NONE);
        refused(BoundaryTests::hopeless, "best(2)", x -> x.best(2), NONE);
        refused(BoundaryTests::hopeless, "regret(1)", x -> x.regret(1), NONE);
        refused(BoundaryTests::hopeless, "calmest()", FutureSets::calmest, NONE);
        refused(BoundaryTests::hopeless, "waiting(0)", x -> x.waiting(0), NONE);
        refused(BoundaryTests::allKept, "chance(0, 0)", x -> x.chance(0, 0), NONE);
        refused(BoundaryTests::allKept, "breaks(0), safe", x -> x.breaks(0), NONE);
    }

    // ---- promises 1 to 9

    private static void aNewObjectHasNothing() {
        about("No NAMES, ROWS, TERMS, LISTED FUTURES; F is 1, S is 0, BUDGET 0");
        dueTold(new FutureSets(), 0, 0, 0, 0, 0, 1, 0, 0);
        FutureSets x = new FutureSets();
        due("comes(1, -1, -1)", x.comes(1, -1, -1), 0);
        due("comes(2, -1, -1): F is 1, S is 0", x.comes(2, -1, -1), BAD);
        due("term(-1, 0, -1, 1)", x.term(-1, 0, -1, 1), 1);
        due("term(-1, 1, -1, 1)", x.term(-1, 1, -1, 1), BAD);
        due("set(0, 0, 0)", x.set(0, 0, 0), BAD);
        due("comes(0, 0, -1)", x.comes(0, 0, -1), BAD);
        due("comes(0, -1, 0)", x.comes(0, -1, 0), BAD);
        due("safest()", x.safest(), 0);
        due("twoStep()", x.twoStep(), NONE);
        due("budget(0)", x.budget(0), 0);
        full();
        dueTold(new FutureSets(), 0, 0, 0, 0, 0, 1, 0, 0);
    }

    private static void beginLeavesNothing() {
        about("begin: All as at first, but for F, S");
        FutureSets x = full();
        x.begin(3, 2);
        dueTold(x, 0, 0, 0, 0, 0, 3, 2, 0);
        String after = everything(x);
        String anew = everything(begun(3, 2));
        if (!after.equals(anew)) say("a full one begun anew shows\n" + after + "\na new one\n" + anew);
        FutureSets again = full();
        again.begin(1, 1);
        again.future(9, false);
        for (int i = 0; i < 12; i++) again.name(3, 5, 7);
        for (int i = 0; i < 10; i++) again.row();
        for (int i = 0; i < 12; i++) due("set(0, " + i + ", 6)", again.set(0, i, 6), 5);
        for (int i = 0; i < 10; i++) due("comes(3, " + i + ", 0)", again.comes(3, i, 0), 0);
        due("told(4)", again.told(4), 1);
        for (int i = 1; i < 8; i++) due("future " + i, again.future(1, false), i);
        due("told(4): the fourth was kept once", again.told(4), 8);
        for (int i = 0; i < 12; i++) due("set(3, " + i + ", 6)", again.set(3, i, 6), 5);
    }

    private static void beginTellsTheTerms() {
        about("begin: how many TERMS there were");
        FutureSets x = new FutureSets();
        due("begin(2, 2), none", x.begin(2, 2), 0);
        x.term(-1, 0, -1, 1);
        due("begin(2, 2), one", x.begin(2, 2), 1);
        due("begin(2, 2), none again", x.begin(2, 2), 0);
        due("begin(1, 0), 40", full().begin(1, 0), 40);
    }

    private static void beginRefuses() {
        about("begin: BAD: f is not 1 .. 6, s not 0 .. 4");
        for (int f = 1; f <= 6; f++) {
            for (int s = 0; s <= 4; s++) {
                FutureSets x = sample();
                due("begin(" + f + ", " + s + ")", x.begin(f, s), 9);
                dueTold(x, 0, 0, 0, 0, 0, f, s, 0);
            }
        }
        int[][] bad = {{0, 0}, {7, 0}, {-1, 0}, {MIN, 0}, {MAX, 0}, {1, -1}, {1, 5}, {1, MIN}, {1, MAX}, {6, 5}, {7, 4}, {0, 5},
            {7, -1}, {4, 6}};
        for (int[] each : bad) {
            String call = "begin(" + each[0] + ", " + each[1] + ")";
            refused(BoundaryTests::sample, call, x -> x.begin(each[0], each[1]), BAD);
        }
        refused(BoundaryTests::full, "begin(0, 0)", x -> x.begin(0, 0), BAD);
    }

    private static void nameTellsItsNumber() {
        about("name: A NAME more: its number");
        FutureSets x = new FutureSets();
        for (int i = 0; i < 12; i++) {
            due("told(0) before name " + i, x.told(0), i);
            due("worstName(0, -1, " + i + ") before it", x.worstName(0, -1, i), BAD);
            due("name " + i, x.name(-i, i, 2 * i), i);
            due("worstName(0, -1, " + i + ")", x.worstName(0, -1, i), i);
        }
        due("told(0)", x.told(0), 12);
    }

    private static void nameIsUsualInListedFutures() {
        about("name: in LISTED FUTURES it is USUAL");
        FutureSets x = new FutureSets();
        for (int i = 0; i < 8; i++) x.future(1, i == 7);
        x.name(-9, 4, 9);
        x.set(0, 0, 9);
        x.name(-9, -6, 9);
        due("set(0, 0, 1): the first name stays as it was set", x.set(0, 0, 1), 9);
        for (int i = 1; i < 8; i++) due("set(" + i + ", 0, 1)", x.set(i, 0, 1), 4);
        for (int i = 0; i < 8; i++) due("set(" + i + ", 1, 1)", x.set(i, 1, 1), -6);
        x.begin(1, 0);
        for (int i = 0; i < 8; i++) x.future(1, false);
        x.name(-9, 3, 9);
        for (int i = 0; i < 8; i++) due("set(" + i + ", 0, 1), begun anew", x.set(i, 0, 1), 3);
    }

    private static void nameRefuses() {
        about("name: BAD; FULL: there are 12");
        int[][] bad = {{0, 0, -1}, {1, 0, 1}, {0, 2, 1}, {-101, 0, 0}, {0, 0, 101}};
        for (int[] each : bad) refusedName(each);
        refused(BoundaryTests::full, "name(0, 0, 0)", x -> x.name(0, 0, 0), FULL);
        FutureSets eleven = new FutureSets();
        for (int i = 0; i < 11; i++) eleven.name(0, 0, 0);
        due("the twelfth, refused", eleven.name(0, 1, 0), BAD);
        due("the twelfth", eleven.name(0, 0, 1), 11);
        due("the thirteenth", eleven.name(0, 0, 1), FULL);
        eleven.begin(1, 0);
        due("one more, begun anew", eleven.name(0, 0, 0), 0);
    }

    private static void budgetTellsWhatItWas() {
        about("budget: BUDGET becomes n (0 .. 12): what it was");
        FutureSets x = new FutureSets();
        int before = 0;
        int[] numbers = {0, 1, 12, 12, 0, 11, 5};
        for (int n : numbers) {
            due("budget(" + n + ")", x.budget(n), before);
            due("told(7)", x.told(7), n);
            before = n;
        }
        x.begin(1, 0);
        due("budget(3), begun anew", x.budget(3), 0);
    }

    private static void budgetRefuses() {
        about("budget: BAD");
        int[] bad = {-1, 13, MIN, MAX, 100};
        for (int n : bad) refused(BoundaryTests::sample, "budget(" + n + ")", x -> x.budget(n), BAD);
        FutureSets x = sample();
        x.budget(13);
        due("budget(4) behind a refused one", x.budget(4), 1);
    }

    private static void rowTellsItsNumber() {
        about("row: A ROW more: its number");
        FutureSets x = new FutureSets();
        for (int i = 0; i < 10; i++) {
            due("told(1) before row " + i, x.told(1), i);
            due("comes(0, " + i + ", -1) before it", x.comes(0, i, -1), BAD);
            due("row()", x.row(), i);
            due("comes(0, " + i + ", -1)", x.comes(0, i, -1), 0);
        }
        due("told(1)", x.told(1), 10);
    }

    private static void rowRefuses() {
        about("row: FULL: there are 10");
        refused(BoundaryTests::full, "row()", FutureSets::row, FULL);
        FutureSets x = full();
        x.row();
        due("row() once more", x.row(), FULL);
        x.begin(1, 0);
        due("row(), begun anew", x.row(), 0);
    }

    private static void termTellsHowMany() {
        about("term: A TERM of a ROW (-1: of THE COST) more: how many TERMS there are. choice, name: -1 if it has none");
        FutureSets x = begun(1, 1);
        x.row();
        x.name(2, 2, 2);
        due("term(-1, -1, -1, 3)", x.term(-1, -1, -1, 3), 1);
        due("told(2)", x.told(2), 1);
        due("term(0, 1, 0, 3)", x.term(0, 1, 0, 3), 2);
        due("term(0, 1, 0, 3), the same again", x.term(0, 1, 0, 3), 3);
        due("term(0, 0, -1, -1)", x.term(0, 0, -1, -1), 4);
        due("term(0, -1, 0, 0)", x.term(0, -1, 0, 0), 5);
        due("comes(3, 0, -1)", x.comes(3, 0, -1), 11);
        due("comes(3, -1, -1)", x.comes(3, -1, -1), 3);
        due("told(2)", x.told(2), 5);
    }

    private static void termRefuses() {
        about("term: BAD; FULL: there are 40");
        int[][] bad = {{2, 0, 0, 1}, {-2, 0, 0, 1}, {MIN, 0, 0, 1}, {MAX, 0, 0, 1}, {0, 3, 0, 1}, {0, -2, 0, 1}, {0, MIN, 0, 1},
            {0, MAX, 0, 1}, {0, 0, 2, 1}, {0, 0, -2, 1}, {0, 0, MIN, 1}, {0, 0, MAX, 1}, {0, 0, 0, 21}, {0, 0, 0, -21},
            {-1, 3, -1, 1}, {-1, -1, 2, 1}, {-1, -1, -1, 21}, {9, 9, 9, 99}};
        for (int[] each : bad) {
            String call = "term(" + each[0] + ", " + each[1] + ", " + each[2] + ", " + each[3] + ")";
            refused(BoundaryTests::sample, call, x -> x.term(each[0], each[1], each[2], each[3]), BAD);
        }
        refused(FutureSets::new, "term(0, -1, -1, 1) without rows", x -> x.term(0, -1, -1, 1), BAD);
        refused(FutureSets::new, "term(-1, -1, 0, 1) without names", x -> x.term(-1, -1, 0, 1), BAD);
        refused(FutureSets::new, "term(-1, 1, -1, 1) without that choice", x -> x.term(-1, 1, -1, 1), BAD);
        refused(BoundaryTests::full, "term(0, 0, 0, 1)", x -> x.term(0, 0, 0, 1), FULL);
        FutureSets x = sample();
        for (int i = 10; i < 40; i++) x.term(0, 0, 0, 0);
        due("the fortieth, refused", x.term(0, 0, 0, 21), BAD);
        due("the fortieth", x.term(0, 0, 0, 20), 40);
        due("one more", x.term(0, 0, 0, 20), FULL);
        x.begin(1, 0);
        due("one more, begun anew", x.term(-1, 0, -1, 20), 1);
    }

    private static void futureIsUsual() {
        about("future: A LISTED FUTURE more, in which all is USUAL: its number");
        FutureSets x = new FutureSets();
        for (int i = 0; i < 12; i++) x.name(-20, i - 6, 20);
        for (int i = 0; i < 8; i++) {
            due("told(3) before future " + i, x.told(3), i);
            due("best(" + i + ") before it", x.best(i), BAD);
            due("future " + i, x.future(i + 1, i % 2 == 1), i);
            for (int name = 0; name < 12; name++) {
                due("set(" + i + ", " + name + ", 20)", x.set(i, name, 20), name - 6);
            }
        }
        due("told(3)", x.told(3), 8);
        due("told(4)", x.told(4), 4);
    }

    private static void futureRefuses() {
        about("future: BAD: odds; FULL: there are 8");
        int[] bad = {0, 101, -1, MIN, MAX};
        for (int odds : bad) refused(BoundaryTests::sample, "future(" + odds + ", false)", x -> x.future(odds, false), BAD);
        refused(BoundaryTests::full, "future(1, false)", x -> x.future(1, false), FULL);
        refused(BoundaryTests::full, "future(100, true)", x -> x.future(100, true), FULL);
        FutureSets x = sample();
        for (int i = 3; i < 7; i++) x.future(1, true);
        due("the eighth, refused", x.future(0, true), BAD);
        due("the eighth", x.future(100, true), 7);
        due("the ninth", x.future(100, false), FULL);
        x.begin(1, 0);
        due("one more, begun anew", x.future(100, false), 0);
    }

    private static void setTellsWhatItWas() {
        about("set: A NAME's number in a LISTED FUTURE becomes v: what it was");
        FutureSets x = sample();
        due("set(1, 1, 4)", x.set(1, 1, 4), 0);
        due("set(1, 1, 4) again", x.set(1, 1, 4), 4);
        due("set(1, 1, -1)", x.set(1, 1, -1), 4);
        due("set(1, 1, 2)", x.set(1, 1, 2), -1);
        due("set(1, 0, 0): another name", x.set(1, 0, 0), 0);
        due("set(0, 1, 2): another future", x.set(0, 1, 2), 2);
        due("set(2, 1, 4): another future", x.set(2, 1, 4), 1);
        due("comes(2, -1, 2)", x.comes(2, -1, 2), 4);
        due("comes(2, -1, -1): the usual one stays", x.comes(2, -1, -1), 2);
        due("worst(2, -1): the set stays", x.worst(2, -1), 4);
        due("future(1, false)", x.future(1, false), 3);
        due("set(3, 1, 0): a new one is usual", x.set(3, 1, 0), 2);
    }

    /** The document bounds THE SET by BUDGET, and only that. */
    private static void setMindsNoBudget() {
        about("set: a LISTED FUTURE may have more NAMES that are not USUAL than BUDGET");
        FutureSets x = begun(1, 0);
        for (int i = 0; i < 12; i++) x.term(-1, -1, x.name(0, 0, 1), 1);
        x.future(1, false);
        for (int i = 0; i < 12; i++) due("set(0, " + i + ", 1)", x.set(0, i, 1), 0);
        due("comes(0, -1, 0)", x.comes(0, -1, 0), 12);
        due("worst(0, -1)", x.worst(0, -1), 0);
    }

    private static void setRefuses() {
        about("set: BAD");
        int[][] bad = {{3, 0, 0}, {-1, 0, 0}, {MIN, 0, 0}, {MAX, 0, 0}, {0, 2, 0}, {0, -1, 0}, {0, MIN, 0}, {0, MAX, 0},
            {0, 0, 4}, {0, 0, -3}, {0, 1, 5}, {0, 1, -2}, {0, 0, MIN}, {0, 0, MAX}, {8, 12, 0}};
        for (int[] each : bad) {
            String call = "set(" + each[0] + ", " + each[1] + ", " + each[2] + ")";
            refused(BoundaryTests::sample, call, x -> x.set(each[0], each[1], each[2]), BAD);
        }
        refused(BoundaryTests::full, "set(8, 0, 0)", x -> x.set(8, 0, 0), BAD);
        refused(BoundaryTests::full, "set(0, 12, 0)", x -> x.set(0, 12, 0), BAD);
        refused(BoundaryTests::allKept, "set(0, 0, 0) without names", x -> x.set(0, 0, 0), BAD);
    }

    private static void toldTellsEach() {
        about("told: How many: 0 NAMES, 1 ROWS, 2 TERMS, 3 LISTED FUTURES, 4 COUNTED ones, 5 F, 6 S, 7 BUDGET");
        dueTold(sample(), 2, 2, 9, 3, 2, 2, 1, 1);
        dueTold(full(), 12, 10, 40, 8, 7, 1, 1, 12);
        dueTold(allKept(), 0, 1, 1, 2, 0, 1, 1, 0);
        dueTold(begun(6, 4), 0, 0, 0, 0, 0, 6, 4, 0);
    }

    private static void toldRefuses() {
        about("told: BAD");
        int[] bad = {-1, 8, 9, MIN, MAX};
        for (int what : bad) refused(BoundaryTests::sample, "told(" + what + ")", x -> x.told(what), BAD);
    }

    // ---- promises 10 to 14

    private static void comesTakesCostAndUsual() {
        about("comes: a ROW (-1: THE COST) .. in a LISTED FUTURE (-1: that in which all is USUAL)");
        FutureSets x = sample();
        due("comes(0, 0, -1)", x.comes(0, 0, -1), 1);
        due("comes(7, 0, -1)", x.comes(7, 0, -1), -1);
        due("comes(7, 1, -1)", x.comes(7, 1, -1), -3);
        due("comes(7, 1, 2)", x.comes(7, 1, 2), 0);
        due("comes(7, -1, -1)", x.comes(7, -1, -1), 9);
        due("comes(7, -1, 0)", x.comes(7, -1, 0), 9);
        due("comes(7, -1, 1), a kept one", x.comes(7, -1, 1), 7);
        due("comes(7, -1, 2)", x.comes(7, -1, 2), 8);
        due("comes(0, -1, 2)", x.comes(0, -1, 2), 0);
    }

    private static void comesRefuses() {
        about("comes: BAD");
        int[][] bad = {{8, 0, 0}, {-1, 0, 0}, {MIN, 0, 0}, {MAX, 0, 0}, {0, 2, 0}, {0, -2, 0}, {0, MIN, 0}, {0, MAX, 0},
            {0, 0, 3}, {0, 0, -2}, {0, 0, MIN}, {0, 0, MAX}, {8, -1, -1}, {0, 2, -1}, {0, -1, 3}, {-1, -1, -1}};
        for (int[] each : bad) {
            String call = "comes(" + each[0] + ", " + each[1] + ", " + each[2] + ")";
            refused(BoundaryTests::sample, call, x -> x.comes(each[0], each[1], each[2]), BAD);
        }
    }

    private static void worstTakesTheCost() {
        about("worst: THE WORST of a ROW (-1: of THE COST) with a PLAN");
        FutureSets x = sample();
        due("worst(0, 0)", x.worst(0, 0), 1);
        due("worst(0, 1)", x.worst(0, 1), 2);
        due("worst(4, 1)", x.worst(4, 1), 0);
        due("worst(0, -1)", x.worst(0, -1), 0);
        due("worst(7, -1)", x.worst(7, -1), 11);
        x.budget(0);
        due("worst(0, 1), budget 0", x.worst(0, 1), -1);
        due("worst(7, -1), budget 0", x.worst(7, -1), 9);
    }

    private static void worstRefuses() {
        about("worst: BAD");
        int[][] bad = {{8, 0}, {-1, 0}, {MIN, 0}, {MAX, 0}, {0, 2}, {0, -2}, {0, MIN}, {0, MAX}, {8, -1}, {-1, -1}};
        for (int[] each : bad) {
            String call = "worst(" + each[0] + ", " + each[1] + ")";
            refused(BoundaryTests::sample, call, x -> x.worst(each[0], each[1]), BAD);
        }
    }

    private static void worstNameOfEachName() {
        about("worstName: A NAME's number in its THE WORST FUTURE");
        FutureSets x = sample();
        due("worstName(0, 1, 0)", x.worstName(0, 1, 0), 3);
        due("worstName(0, 1, 1): no part in the row", x.worstName(0, 1, 1), 2);
        due("worstName(0, 0, 0): no part in the row", x.worstName(0, 0, 0), 0);
        due("worstName(2, -1, 1): of the cost", x.worstName(2, -1, 1), 4);
        due("worstName(1, -1, 1): its choice is not made", x.worstName(1, -1, 1), 2);
        due("worstName(2, -1, 0)", x.worstName(2, -1, 0), 0);
        x.set(0, 0, -2);
        due("worstName(0, 0, 0): listed futures have no part", x.worstName(0, 0, 0), 0);
        x.budget(0);
        due("worstName(0, 1, 0), budget 0", x.worstName(0, 1, 0), 0);
        due("worstName(2, -1, 1), budget 0", x.worstName(2, -1, 1), 2);
    }

    private static void worstNameRefuses() {
        about("worstName: BAD");
        int[][] bad = {{8, 0, 0}, {-1, 0, 0}, {MIN, 0, 0}, {MAX, 0, 0}, {0, 2, 0}, {0, -2, 0}, {0, MIN, 0}, {0, MAX, 0},
            {0, 0, 2}, {0, 0, -1}, {0, 0, MIN}, {0, 0, MAX}, {0, -1, 2}, {0, -1, -1}};
        for (int[] each : bad) {
            String call = "worstName(" + each[0] + ", " + each[1] + ", " + each[2] + ")";
            refused(BoundaryTests::sample, call, x -> x.worstName(each[0], each[1], each[2]), BAD);
        }
        refused(BoundaryTests::full, "worstName(0, 0, 12)", x -> x.worstName(0, 0, 12), BAD);
        refused(BoundaryTests::allKept, "worstName(0, 0, 0) without names", x -> x.worstName(0, 0, 0), BAD);
    }

    private static void breaksTellsTheFirstRow() {
        about("breaks: The first ROW that does not HOLD in all of THE SET: NONE if the PLAN is SAFE");
        FutureSets x = sample();
        due("breaks(0): rows 0 and 1", x.breaks(0), 0);
        due("breaks(4): row 0", x.breaks(4), 0);
        due("breaks(1): row 1", x.breaks(1), 1);
        due("breaks(5): row 1 comes to 0 at worst", x.breaks(5), NONE);
        x.budget(0);
        due("breaks(1), budget 0", x.breaks(1), NONE);
        FutureSets ten = begun(1, 0);
        for (int i = 0; i < 10; i++) ten.row();
        due("breaks(0): no terms", ten.breaks(0), NONE);
        for (int row = 9; row >= 0; row--) {
            ten.term(row, 0, -1, 1);
            due("breaks(1): rows from " + row + " on", ten.breaks(1), row);
            due("breaks(0)", ten.breaks(0), NONE);
        }
        ten.term(-1, -1, -1, 20);
        due("breaks(0): the cost is no row", ten.breaks(0), NONE);
    }

    private static void breaksRefuses() {
        about("breaks: BAD");
        int[] bad = {8, -1, MIN, MAX};
        for (int plan : bad) refused(BoundaryTests::sample, "breaks(" + plan + ")", x -> x.breaks(plan), BAD);
        due("breaks(7)", sample().breaks(7), NONE);
    }

    private static void safestRefuses() {
        about("safest: NONE: none is SAFE");
        due("safest()", sample().safest(), 5);
        refused(BoundaryTests::hopeless, "safest()", FutureSets::safest, NONE);
        refused(BoundaryTests::stuckInOne, "safest()", FutureSets::safest, NONE);
        FutureSets x = stuckInOne();
        x.budget(0);
        due("safest(), budget 0", x.safest(), 1);
        FutureSets last = begun(6, 4);
        last.row();
        last.term(0, -1, -1, 10);
        for (int j = 0; j < 10; j++) last.term(0, j, -1, -1);
        due("safest(): the last plan alone", last.safest(), 1023);
        last.term(0, -1, -1, 1);
        due("safest(): not even that", last.safest(), NONE);
        due("safest() without anything", new FutureSets().safest(), 0);
    }

    // ---- promises 15 to 22

    private static void answerTakesKeptFutures() {
        about("answer: THE ANSWER to a FIRST PART in a LISTED FUTURE (KEPT or not): a PLAN");
        FutureSets x = sample();
        int[][] want = {{NONE, NONE, NONE}, {1, 1, 5}, {2, 2, 6}, {3, 3, 7}};
        for (int first = 0; first < 4; first++) {
            for (int i = 0; i < 3; i++) due("answer(" + first + ", " + i + ")", x.answer(first, i), want[first][i]);
        }
        x.set(1, 0, 3);
        due("answer(2, 1): kept, and now with choice 2", x.answer(2, 1), 6);
        due("answer(1, 0), all kept", allKept().answer(1, 0), 1);
    }

    private static void answerRefuses() {
        about("answer: BAD; NONE");
        int[][] bad = {{4, 0}, {7, 0}, {-1, 0}, {MIN, 0}, {MAX, 0}, {1, 3}, {1, -1}, {1, MIN}, {1, MAX}, {0, 3}};
        for (int[] each : bad) {
            String call = "answer(" + each[0] + ", " + each[1] + ")";
            refused(BoundaryTests::sample, call, x -> x.answer(each[0], each[1]), BAD);
        }
        refused(BoundaryTests::sample, "answer(0, 0)", x -> x.answer(0, 0), NONE);
        refused(BoundaryTests::sample, "answer(0, 1)", x -> x.answer(0, 1), NONE);
        refused(BoundaryTests::stuckInOne, "answer(3, 2)", x -> x.answer(3, 2), NONE);
    }

    private static void twoStepRefuses() {
        about("twoStep: THE TWO-STEP PLAN: a FIRST PART. NONE: there is none; also without COUNTED FUTURES");
        due("twoStep(): 1 has 20 + 35, 2 has 20 + 30", sample().twoStep(), 2);
        refused(BoundaryTests::stuckInOne, "twoStep(), none", FutureSets::twoStep, NONE);
        refused(BoundaryTests::allKept, "twoStep(), all kept", FutureSets::twoStep, NONE);
        refused(FutureSets::new, "twoStep(), no futures", FutureSets::twoStep, NONE);
        FutureSets x = allKept();
        x.future(1, false);
        due("twoStep(), one counted", x.twoStep(), 1);
    }

    private static void meanRefuses() {
        about("mean: BAD; NONE: it has no ANSWER in some COUNTED FUTURE, or there is none such");
        FutureSets good = sample();
        dueFraction("mean(1)", good.mean(1, 0), good.mean(1, 1), 11, 3);
        int[][] bad = {{4, 0}, {-1, 0}, {MIN, 0}, {MAX, 1}, {1, 2}, {1, -1}, {1, MIN}, {1, MAX}, {0, 2}};
        for (int[] each : bad) {
            String call = "mean(" + each[0] + ", " + each[1] + ")";
            refused(BoundaryTests::sample, call, x -> x.mean(each[0], each[1]), BAD);
        }
        for (int part = 0; part < 2; part++) {
            int which = part;
            refused(BoundaryTests::sample, "mean(0, " + part + "), no answer", x -> x.mean(0, which), NONE);
            refused(BoundaryTests::stuckInOne, "mean(3, " + part + "), in the last", x -> x.mean(3, which), NONE);
            refused(BoundaryTests::allKept, "mean(1, " + part + "), all kept", x -> x.mean(1, which), NONE);
            refused(FutureSets::new, "mean(1, " + part + "), no futures", x -> x.mean(1, which), NONE);
        }
    }

    private static void bestTakesKeptFutures() {
        about("best: THE BEST in a LISTED FUTURE");
        FutureSets x = sample();
        due("best(0)", x.best(0), 2);
        due("best(1), kept", x.best(1), 0);
        due("best(2)", x.best(2), 6);
        x.set(1, 1, -1);
        due("best(1), below 0", x.best(1), -1);
        due("best(0), all kept", allKept().best(0), -3);
    }

    private static void bestRefuses() {
        about("best: BAD; NONE: there is none");
        int[] bad = {3, -1, 8, MIN, MAX};
        for (int i : bad) refused(BoundaryTests::sample, "best(" + i + ")", x -> x.best(i), BAD);
        refused(BoundaryTests::stuckInOne, "best(2)", x -> x.best(2), NONE);
        due("best(0), stuck in future 2", stuckInOne().best(0), 2);
        FutureSets kept = stuckInOne();
        kept.set(1, 0, 3);
        due("best(1), kept and none", kept.best(1), NONE);
    }

    private static void regretRefuses() {
        about("regret: BAD; NONE as mean()");
        due("regret(1)", sample().regret(1), 1);
        due("regret(3)", sample().regret(3), 2);
        int[] bad = {4, 7, -1, MIN, MAX};
        for (int first : bad) refused(BoundaryTests::sample, "regret(" + first + ")", x -> x.regret(first), BAD);
        refused(BoundaryTests::sample, "regret(0), no answer", x -> x.regret(0), NONE);
        refused(BoundaryTests::stuckInOne, "regret(3), in the last", x -> x.regret(3), NONE);
        refused(BoundaryTests::allKept, "regret(1), all kept", x -> x.regret(1), NONE);
        refused(FutureSets::new, "regret(1), no futures", x -> x.regret(1), NONE);
    }

    private static void calmestRefuses() {
        about("calmest: NONE as twoStep()");
        due("calmest()", sample().calmest(), 2);
        refused(BoundaryTests::stuckInOne, "calmest(), none", FutureSets::calmest, NONE);
        refused(BoundaryTests::allKept, "calmest(), all kept", FutureSets::calmest, NONE);
        refused(FutureSets::new, "calmest(), no futures", FutureSets::calmest, NONE);
        FutureSets x = allKept();
        x.future(1, false);
        due("calmest(), one counted", x.calmest(), 1);
    }

    private static void waitingRefuses() {
        about("waiting: BAD; NONE as twoStep()");
        FutureSets good = sample();
        dueFraction("waiting", good.waiting(0), good.waiting(1), 0, 1);
        int[] bad = {2, -1, MIN, MAX};
        for (int part : bad) refused(BoundaryTests::sample, "waiting(" + part + ")", x -> x.waiting(part), BAD);
        for (int part = 0; part < 2; part++) {
            int which = part;
            refused(BoundaryTests::stuckInOne, "waiting(" + part + "), none", x -> x.waiting(which), NONE);
            refused(BoundaryTests::allKept, "waiting(" + part + "), all kept", x -> x.waiting(which), NONE);
            refused(FutureSets::new, "waiting(" + part + "), no futures", x -> x.waiting(which), NONE);
        }
    }

    private static void chanceRefuses() {
        about("chance: BAD; NONE: without COUNTED FUTURES");
        FutureSets good = sample();
        dueFraction("chance(1)", good.chance(1, 0), good.chance(1, 1), 2, 3);
        dueFraction("chance(0): in none is not NONE", good.chance(0, 0), good.chance(0, 1), 0, 1);
        dueFraction("chance(7)", good.chance(7, 0), good.chance(7, 1), 1, 1);
        int[][] bad = {{8, 0}, {-1, 0}, {MIN, 0}, {MAX, 1}, {0, 2}, {0, -1}, {0, MIN}, {0, MAX}};
        for (int[] each : bad) {
            String call = "chance(" + each[0] + ", " + each[1] + ")";
            refused(BoundaryTests::sample, call, x -> x.chance(each[0], each[1]), BAD);
        }
        for (int part = 0; part < 2; part++) {
            int which = part;
            refused(BoundaryTests::allKept, "chance(3, " + part + "), all kept", x -> x.chance(3, which), NONE);
            refused(FutureSets::new, "chance(1, " + part + "), no futures", x -> x.chance(1, which), NONE);
        }
    }
}
