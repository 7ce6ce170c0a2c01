/**
 * Plans for futures that are not known: plans that are safe whatever comes, and plans in two steps
 * for futures that are listed with odds. No call throws; refusals are the answers BAD, FULL, NONE.
 */
public final class FutureSets {
    public static final int BAD = -1000000001, FULL = -1000000002, NONE = -1000000003;

    private static final int MOST_FIRSTS = 6;
    private static final int MOST_SECONDS = 4;
    private static final int MOST_NAMES = 12;
    private static final int MOST_ROWS = 10;
    private static final int MOST_TERMS = 40;
    private static final int MOST_FUTURES = 8;
    private static final int MOST_NUMBER = 100;
    private static final int MOST_FACTOR = 20;
    private static final int MOST_ODDS = 100;

    /** In the place of a row: the cost. */
    private static final int COST = -1;
    /** In the place of a listed future: the one in which all is usual. */
    private static final int ALL_USUAL = -1;
    /** In the place of a term's choice or name: it has none. */
    private static final int WITHOUT = -1;

    /** Far above the steps that Euclid's rule can take on two ints (fewer than 50). */
    private static final int MOST_DIVISIONS = 100;

    private final Names names = new Names();
    private final Terms terms = new Terms();
    private final Listed listed = new Listed();
    private int rowCount;
    private int firstCount;
    private int secondCount;
    private int budgetNow;

    // Rows that calls work in; made once, so that no call makes an object.
    private final int[] sums = new int[MOST_ROWS + 1];
    private final int[] bests = new int[MOST_FUTURES];
    private final int[] weights = new int[MOST_NAMES];
    private final int[] gains = new int[MOST_NAMES];
    private final int[] worstNumbers = new int[MOST_NAMES];

    public FutureSets() {
        startAnew(1, 0);
    }

    // ---- the problem

    public int begin(int f, int s) {
        if (!isWithin(f, 1, MOST_FIRSTS) || !isWithin(s, 0, MOST_SECONDS)) return BAD;
        int termsBefore = terms.count;
        startAnew(f, s);
        return termsBefore;
    }

    public int name(int least, int usual, int greatest) {
        boolean inOrder = least <= usual && usual <= greatest;
        if (!inOrder || least < -MOST_NUMBER || greatest > MOST_NUMBER) return BAD;
        if (names.count >= MOST_NAMES) return FULL;
        listed.putInAll(names.count, usual);
        return names.add(least, usual, greatest);
    }

    public int budget(int n) {
        if (!isWithin(n, 0, MOST_NAMES)) return BAD;
        int before = budgetNow;
        budgetNow = n;
        return before;
    }

    public int row() {
        if (rowCount >= MOST_ROWS) return FULL;
        rowCount++;
        return rowCount - 1;
    }

    public int term(int row, int choice, int name, int factor) {
        if (!isRowOrCost(row)) return BAD;
        if (!isWithin(choice, WITHOUT, firstCount + secondCount - 1)) return BAD;
        if (!isWithin(name, WITHOUT, names.count - 1)) return BAD;
        if (!isWithin(factor, -MOST_FACTOR, MOST_FACTOR)) return BAD;
        if (terms.count >= MOST_TERMS) return FULL;
        return terms.add(row, choice, name, factor);
    }

    public int future(int odds, boolean kept) {
        if (!isWithin(odds, 1, MOST_ODDS)) return BAD;
        if (listed.count >= MOST_FUTURES) return FULL;
        return listed.add(odds, kept, names);
    }

    public int set(int future, int name, int v) {
        if (!isListed(future) || !isName(name)) return BAD;
        if (!isWithin(v, names.least[name], names.greatest[name])) return BAD;
        int before = listed.numbers[future][name];
        listed.numbers[future][name] = v;
        return before;
    }

    public int told(int what) {
        switch (what) {
            case 0: return names.count;
            case 1: return rowCount;
            case 2: return terms.count;
            case 3: return listed.count;
            case 4: return listed.countCounted();
            case 5: return firstCount;
            case 6: return secondCount;
            case 7: return budgetNow;
            default: return BAD;
        }
    }

    public int comes(int plan, int row, int future) {
        if (!isPlan(plan) || !isRowOrCost(row)) return BAD;
        if (future != ALL_USUAL && !isListed(future)) return BAD;
        terms.sumUp(plan, future == ALL_USUAL ? names.usual : listed.numbers[future], sums);
        return sums[slotOf(row)];
    }

    // ---- whatever comes

    public int worst(int plan, int row) {
        if (!isPlan(plan) || !isRowOrCost(row)) return BAD;
        return findWorst(plan, row);
    }

    public int worstName(int plan, int row, int name) {
        if (!isPlan(plan) || !isRowOrCost(row) || !isName(name)) return BAD;
        findWorst(plan, row);
        return worstNumbers[name];
    }

    public int breaks(int plan) {
        if (!isPlan(plan)) return BAD;
        return firstBroken(plan);
    }

    public int safest() {
        int found = NONE;
        int least = 0;
        for (int plan = 0; plan < planCount(); plan++) {
            int cost = findWorst(plan, COST);
            // The cost goes first: where it is no less, the rows need not be looked at.
            if ((found == NONE || cost < least) && firstBroken(plan) == NONE) {
                found = plan;
                least = cost;
            }
        }
        return found;
    }

    // ---- by what is listed

    public int answer(int first, int future) {
        if (!isFirstPart(first) || !isListed(future)) return BAD;
        return findAnswer(first, future);
    }

    public int twoStep() {
        return findTwoStep();
    }

    public int mean(int first, int part) {
        if (!isFirstPart(first) || !isPart(part)) return BAD;
        int sum = costByOdds(first);
        if (sum == NONE) return NONE;
        return partOfFraction(sum, listed.countedOdds(), part);
    }

    public int best(int future) {
        if (!isListed(future)) return BAD;
        return leastCost(future);
    }

    public int regret(int first) {
        if (!isFirstPart(first)) return BAD;
        fillBests();
        return greatestRegret(first);
    }

    public int calmest() {
        fillBests();
        int found = NONE;
        int least = 0;
        for (int first = 0; first < firstPartCount(); first++) {
            int regretHere = greatestRegret(first);
            if (regretHere != NONE && (found == NONE || regretHere < least)) {
                found = first;
                least = regretHere;
            }
        }
        return found;
    }

    public int waiting(int part) {
        if (!isPart(part)) return BAD;
        int first = findTwoStep();
        if (first == NONE) return NONE;
        fillBests();
        int above = costByOdds(first);
        for (int i = 0; i < listed.count; i++) {
            if (!listed.kept[i]) above -= listed.odds[i] * bests[i];
        }
        return partOfFraction(above, listed.countedOdds(), part);
    }

    public int chance(int plan, int part) {
        if (!isPlan(plan) || !isPart(part)) return BAD;
        int allOdds = listed.countedOdds();
        if (allOdds == 0) return NONE;
        int above = 0;
        for (int i = 0; i < listed.count; i++) {
            if (!listed.kept[i] && allHold(plan, i)) above += listed.odds[i];
        }
        return partOfFraction(above, allOdds, part);
    }

    // ---- what there is

    private void startAnew(int f, int s) {
        names.count = 0;
        terms.count = 0;
        listed.count = 0;
        rowCount = 0;
        firstCount = f;
        secondCount = s;
        budgetNow = 0;
    }

    private int planCount() {
        return 1 << (firstCount + secondCount);
    }

    private int firstPartCount() {
        return 1 << firstCount;
    }

    private boolean isPlan(int plan) {
        return isWithin(plan, 0, planCount() - 1);
    }

    private boolean isFirstPart(int first) {
        return isWithin(first, 0, firstPartCount() - 1);
    }

    private boolean isRowOrCost(int row) {
        return isWithin(row, COST, rowCount - 1);
    }

    private boolean isName(int name) {
        return isWithin(name, 0, names.count - 1);
    }

    private boolean isListed(int future) {
        return isWithin(future, 0, listed.count - 1);
    }

    private static boolean isPart(int part) {
        return isWithin(part, 0, 1);
    }

    private static boolean isWithin(int n, int low, int high) {
        return low <= n && n <= high;
    }

    /** The cost's sum stands ahead of those of the rows. */
    private static int slotOf(int row) {
        return row - COST;
    }

    // ---- the worst

    /** What a row comes to at worst; worstNumbers becomes the worst future. */
    private int findWorst(int plan, int row) {
        int sum = terms.weigh(plan, row, weights);
        for (int i = 0; i < names.count; i++) {
            sum += weights[i] * names.usual[i];
            gains[i] = weights[i] * (worstOf(i) - names.usual[i]);
            worstNumbers[i] = names.usual[i];
        }
        for (int used = 0; used < budgetNow; used++) {
            int i = greatestGain();
            // A name that gains nothing stays usual: the worst future has the fewest that are not.
            if (i == NONE) break;
            sum += gains[i];
            gains[i] = 0;
            worstNumbers[i] = worstOf(i);
        }
        return sum;
    }

    /** The number of a name that makes the sum greatest, by its weight. */
    private int worstOf(int name) {
        return weights[name] > 0 ? names.greatest[name] : names.least[name];
    }

    /** The name that gains most, the least of several (so the row of such names is least); or NONE. */
    private int greatestGain() {
        int found = NONE;
        int most = 0;
        for (int i = 0; i < names.count; i++) {
            if (gains[i] > most) {
                found = i;
                most = gains[i];
            }
        }
        return found;
    }

    private int firstBroken(int plan) {
        for (int row = 0; row < rowCount; row++) {
            if (findWorst(plan, row) > 0) return row;
        }
        return NONE;
    }

    // ---- listed futures

    /** Whether all rows hold in a listed future; sums becomes what rows and cost come to there. */
    private boolean allHold(int plan, int future) {
        terms.sumUp(plan, listed.numbers[future], sums);
        for (int row = 0; row < rowCount; row++) {
            if (sums[slotOf(row)] > 0) return false;
        }
        return true;
    }

    private int costOf(int plan, int future) {
        terms.sumUp(plan, listed.numbers[future], sums);
        return sums[slotOf(COST)];
    }

    private int findAnswer(int first, int future) {
        int found = NONE;
        int least = 0;
        for (int second = 0; second < 1 << secondCount; second++) {
            int plan = first | second << firstCount;
            if (!allHold(plan, future)) continue;
            int cost = sums[slotOf(COST)];
            if (found == NONE || cost < least) {
                found = plan;
                least = cost;
            }
        }
        return found;
    }

    /** Odds times costs of the answers, over counted futures; or NONE (which no such sum can be). */
    private int costByOdds(int first) {
        if (listed.countedOdds() == 0) return NONE;
        int sum = 0;
        for (int i = 0; i < listed.count; i++) {
            if (listed.kept[i]) continue;
            int plan = findAnswer(first, i);
            if (plan == NONE) return NONE;
            sum += listed.odds[i] * costOf(plan, i);
        }
        return sum;
    }

    private int findTwoStep() {
        int found = NONE;
        int least = 0;
        for (int first = 0; first < firstPartCount(); first++) {
            int sum = costByOdds(first);
            if (sum != NONE && (found == NONE || sum < least)) {
                found = first;
                least = sum;
            }
        }
        return found;
    }

    /** The best in a listed future; or NONE (which no cost can be). */
    private int leastCost(int future) {
        int least = NONE;
        for (int plan = 0; plan < planCount(); plan++) {
            if (!allHold(plan, future)) continue;
            int cost = sums[slotOf(COST)];
            if (least == NONE || cost < least) least = cost;
        }
        return least;
    }

    /** Once a call: the best of a future is the same for all first parts. */
    private void fillBests() {
        for (int i = 0; i < listed.count; i++) {
            if (!listed.kept[i]) bests[i] = leastCost(i);
        }
    }

    /** The regret of a first part, or NONE; fillBests() goes before. */
    private int greatestRegret(int first) {
        if (listed.countedOdds() == 0) return NONE;
        int most = 0;
        for (int i = 0; i < listed.count; i++) {
            if (listed.kept[i]) continue;
            int plan = findAnswer(first, i);
            if (plan == NONE) return NONE;
            most = Math.max(most, costOf(plan, i) - bests[i]);
        }
        return most;
    }

    // ---- fractions

    /** A part of above / below in least terms; below is above 0. */
    private static int partOfFraction(int above, int below, int part) {
        int divisor = commonDivisor(Math.abs(above), below);
        int whole = part == 0 ? above : below;
        return divisor > 1 ? whole / divisor : whole;
    }

    private static int commonDivisor(int a, int b) {
        int greater = a;
        int lesser = b;
        for (int i = 0; i < MOST_DIVISIONS && lesser != 0; i++) {
            int rest = greater % lesser;
            greater = lesser;
            lesser = rest;
        }
        return greater;
    }

    /** What is known of the names' numbers. */
    private static final class Names {
        int count;
        final int[] least = new int[MOST_NAMES];
        final int[] usual = new int[MOST_NAMES];
        final int[] greatest = new int[MOST_NAMES];

        /** There is room for one more. */
        int add(int leastNumber, int usualNumber, int greatestNumber) {
            least[count] = leastNumber;
            usual[count] = usualNumber;
            greatest[count] = greatestNumber;
            count++;
            return count - 1;
        }
    }

    /** The terms of all rows and of the cost, as they came. */
    private static final class Terms {
        int count;
        private final int[] rowOf = new int[MOST_TERMS];
        private final int[] choiceOf = new int[MOST_TERMS];
        private final int[] nameOf = new int[MOST_TERMS];
        private final int[] factorOf = new int[MOST_TERMS];

        /** There is room for one more, and all four are looked at. */
        int add(int row, int choice, int name, int factor) {
            rowOf[count] = row;
            choiceOf[count] = choice;
            nameOf[count] = name;
            factorOf[count] = factor;
            count++;
            return count;
        }

        /** What the cost and each row come to with a plan, by the names' numbers in a future. */
        void sumUp(int plan, int[] numbers, int[] into) {
            for (int i = 0; i < into.length; i++) into[i] = 0;
            for (int i = 0; i < count; i++) {
                if (!isTaken(i, plan)) continue;
                int number = nameOf[i] == WITHOUT ? 1 : numbers[nameOf[i]];
                into[slotOf(rowOf[i])] += factorOf[i] * number;
            }
        }

        /** Each name's factors in a row together, with a plan: the sum of those without a name. */
        int weigh(int plan, int row, int[] into) {
            for (int i = 0; i < into.length; i++) into[i] = 0;
            int bare = 0;
            for (int i = 0; i < count; i++) {
                if (rowOf[i] != row || !isTaken(i, plan)) continue;
                if (nameOf[i] == WITHOUT) {
                    bare += factorOf[i];
                } else {
                    into[nameOf[i]] += factorOf[i];
                }
            }
            return bare;
        }

        private boolean isTaken(int i, int plan) {
            return choiceOf[i] == WITHOUT || (plan >> choiceOf[i] & 1) == 1;
        }
    }

    /** The listed futures. */
    private static final class Listed {
        int count;
        final int[] odds = new int[MOST_FUTURES];
        final boolean[] kept = new boolean[MOST_FUTURES];
        final int[][] numbers = new int[MOST_FUTURES][MOST_NAMES];

        /** There is room for one more. */
        int add(int oddsNumber, boolean isKept, Names names) {
            odds[count] = oddsNumber;
            kept[count] = isKept;
            for (int i = 0; i < names.count; i++) numbers[count][i] = names.usual[i];
            count++;
            return count - 1;
        }

        void putInAll(int name, int number) {
            for (int i = 0; i < count; i++) numbers[i][name] = number;
        }

        int countCounted() {
            int counted = 0;
            for (int i = 0; i < count; i++) {
                if (!kept[i]) counted++;
            }
            return counted;
        }

        /** The odds of all counted futures together: 0 if there are none. */
        int countedOdds() {
            int sum = 0;
            for (int i = 0; i < count; i++) {
                if (!kept[i]) sum += odds[i];
            }
            return sum;
        }
    }
}
