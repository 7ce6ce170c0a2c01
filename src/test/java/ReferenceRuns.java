import java.util.ArrayList;
import java.util.List;
import java.util.Random;

/** Runs of calls, drawn from fixed seeds, against a reference that goes through every future of the set. */
public final class ReferenceRuns {
    private static final int RUNS = 3000;
    private static final int CALLS = 160;
    private static int wrong = 0;

    public static void main(String[] args) {
        for (int seed = 0; seed < RUNS; seed++) {
            new Run(seed).go();
        }
        System.out.println(wrong == 0 ? "all runs are as the reference" : wrong + " answers are not as the reference");
        if (wrong != 0) System.exit(1);
    }

    /** What a run may have; the reference goes through all futures, so no kind is great in all. */
    private enum Kind {
        SMALL(3, 2, 4, 4, 2), WIDE(2, 1, 12, 2, 2), DEEP(2, 1, 12, 12, 1), TALL(6, 4, 3, 3, 2);

        final int firsts, seconds, names, budget;
        /** How far a name's least is below its usual number at most; its greatest above it likewise. */
        final int way;

        Kind(int firsts, int seconds, int names, int budget, int way) {
            this.firsts = firsts;
            this.seconds = seconds;
            this.names = names;
            this.budget = budget;
            this.way = way;
        }

        static Kind of(int seed) {
            if (seed % 40 == 1) return DEEP;
            if (seed % 20 == 3) return TALL;
            return seed % 3 == 0 ? WIDE : SMALL;
        }
    }

    /** One run: a program and a reference that get the same calls. */
    private static final class Run {
        final int seed;
        final Random random;
        final FutureSets program = new FutureSets();
        final Reference reference = new Reference();
        final Kind kind;
        final int reach;

        Run(int seed) {
            this.seed = seed;
            random = new Random(seed);
            kind = Kind.of(seed);
            reach = seed % 2 == 0 ? 2 : 4;
        }

        void go() {
            begin();
            int built = 20 + random.nextInt(40);
            for (int i = 0; i < CALLS; i++) {
                if (i < built ? random.nextInt(8) > 0 : random.nextInt(8) == 0) change();
                else ask();
            }
        }

        /** From low to high, and now and then a bit or far outside. */
        int number(int low, int high) {
            int way = random.nextInt(60);
            if (way == 0) return low - 1;
            if (way == 1) return high + 1;
            if (way == 2) return Integer.MIN_VALUE + random.nextInt(2);
            if (way == 3) return Integer.MAX_VALUE - random.nextInt(2);
            return high < low ? low : low + random.nextInt(high - low + 1);
        }

        void begin() {
            int f = number(1, kind.firsts);
            int s = number(0, kind.seconds);
            same("begin(" + f + ", " + s + ")", program.begin(f, s), reference.begin(f, s));
        }

        void change() {
            int way = random.nextInt(100);
            if (way < 1) begin();
            else if (way < 20) addName();
            else if (way < 26) {
                int n = number(0, kind.budget);
                if (n > kind.budget && n <= 12) n = kind.budget;
                same("budget(" + n + ")", program.budget(n), reference.budget(n));
            } else if (way < 32) {
                same("row()", program.row(), reference.row());
            } else if (way < 75) addTerm();
            else if (way < 85) {
                int odds = number(1, random.nextBoolean() ? 6 : 100);
                boolean kept = random.nextInt(4) == 0;
                same("future(" + odds + ", " + kept + ")", program.future(odds, kept), reference.future(odds, kept));
            } else {
                int i = number(0, reference.odds.size() - 1);
                int name = number(0, reference.least.size() - 1);
                boolean known = name >= 0 && name < reference.least.size();
                int v = known ? number(reference.least.get(name), reference.greatest.get(name)) : 0;
                same("set(" + i + ", " + name + ", " + v + ")", program.set(i, name, v), reference.set(i, name, v));
            }
        }

        void addName() {
            int usual = random.nextInt(2 * reach + 1) - reach;
            int least = usual - random.nextInt(kind.way + 1) + (random.nextInt(30) == 0 ? 3 : 0);
            int greatest = usual + random.nextInt(kind.way + 1) - (random.nextInt(30) == 0 ? 3 : 0);
            // Two numbers for each name: with any budget the set is still small enough to go through.
            if (kind == Kind.DEEP && least < usual) greatest = Math.min(greatest, usual);
            // All 12 names, and the refusal behind them, only in the kinds that may have so many.
            if (kind.names < 12 && reference.least.size() >= kind.names) return;
            same("name(" + least + ", " + usual + ", " + greatest + ")",
                program.name(least, usual, greatest), reference.name(least, usual, greatest));
        }

        void addTerm() {
            int row = number(-1, reference.rows - 1);
            int choice = number(-1, reference.f + reference.s - 1);
            int name = number(-1, reference.least.size() - 1);
            int factor = random.nextInt(20) == 0 ? number(-20, 20) : number(-reach, reach - 1);
            same("term(" + row + ", " + choice + ", " + name + ", " + factor + ")",
                program.term(row, choice, name, factor), reference.term(row, choice, name, factor));
        }

        void ask() {
            int plan = number(0, (1 << reference.f + reference.s) - 1);
            int first = number(0, (1 << reference.f) - 1);
            int row = number(-1, reference.rows - 1);
            int i = number(0, reference.odds.size() - 1);
            int name = number(0, reference.least.size() - 1);
            int part = number(0, 1);
            String at = "(plan " + plan + ", first " + first + ", row " + row + ", future " + i + ", name " + name
                + ", part " + part + ")";
            switch (random.nextInt(14)) {
                case 0: same("told" + at, program.told(i), reference.told(i)); break;
                case 1:
                    int any = random.nextInt(4) == 0 ? -1 : i;
                    same("comes" + at + any, program.comes(plan, row, any), reference.comes(plan, row, any));
                    break;
                case 2: same("worst" + at, program.worst(plan, row), reference.worst(plan, row)); break;
                case 3:
                    same("worstName" + at, program.worstName(plan, row, name), reference.worstName(plan, row, name));
                    break;
                case 4: same("breaks" + at, program.breaks(plan), reference.breaks(plan)); break;
                case 5: same("safest()", program.safest(), reference.safest()); break;
                case 6: same("answer" + at, program.answer(first, i), reference.answer(first, i)); break;
                case 7: same("twoStep()", program.twoStep(), reference.twoStep()); break;
                case 8: same("mean" + at, program.mean(first, part), reference.mean(first, part)); break;
                case 9: same("best" + at, program.best(i), reference.best(i)); break;
                case 10: same("regret" + at, program.regret(first), reference.regret(first)); break;
                case 11: same("calmest()", program.calmest(), reference.calmest()); break;
                case 12: same("waiting" + at, program.waiting(part), reference.waiting(part)); break;
                default: same("chance" + at, program.chance(plan, part), reference.chance(plan, part)); break;
            }
        }

        void same(String call, int got, int want) {
            if (got == want) return;
            wrong++;
            if (wrong <= 50) System.out.println("seed " + seed + ": " + call + " answered " + got + ", due is " + want);
        }
    }

    /** The document's words, taken one by one and without any short way. */
    private static final class Reference {
        static final int BAD = -1000000001, FULL = -1000000002, NONE = -1000000003;
        int f = 1, s = 0, budget = 0, rows = 0;
        List<Integer> least = new ArrayList<>(), usual = new ArrayList<>(), greatest = new ArrayList<>();
        List<int[]> terms = new ArrayList<>();
        List<Integer> odds = new ArrayList<>();
        List<Boolean> kept = new ArrayList<>();
        List<List<Integer>> numbers = new ArrayList<>();

        static boolean in(int n, int low, int high) {
            return n >= low && n <= high;
        }

        int begin(int newF, int newS) {
            if (!in(newF, 1, 6) || !in(newS, 0, 4)) return BAD;
            int were = terms.size();
            f = newF;
            s = newS;
            budget = 0;
            rows = 0;
            least.clear();
            usual.clear();
            greatest.clear();
            terms.clear();
            odds.clear();
            kept.clear();
            numbers.clear();
            return were;
        }

        int name(int low, int mid, int high) {
            if (!in(low, -100, 100) || !in(mid, low, 100) || !in(high, mid, 100)) return BAD;
            if (least.size() == 12) return FULL;
            least.add(low);
            usual.add(mid);
            greatest.add(high);
            for (List<Integer> each : numbers) each.add(mid);
            return least.size() - 1;
        }

        int budget(int n) {
            if (!in(n, 0, 12)) return BAD;
            int was = budget;
            budget = n;
            return was;
        }

        int row() {
            return rows == 10 ? FULL : rows++;
        }

        int term(int row, int choice, int name, int factor) {
            boolean good = in(row, -1, rows - 1) && in(choice, -1, f + s - 1) && in(name, -1, least.size() - 1)
                && in(factor, -20, 20);
            if (!good) return BAD;
            if (terms.size() == 40) return FULL;
            terms.add(new int[] {row, choice, name, factor});
            return terms.size();
        }

        int future(int newOdds, boolean isKept) {
            if (!in(newOdds, 1, 100)) return BAD;
            if (odds.size() == 8) return FULL;
            odds.add(newOdds);
            kept.add(isKept);
            numbers.add(new ArrayList<>(usual));
            return odds.size() - 1;
        }

        int set(int i, int name, int v) {
            if (!isFuture(i) || !in(name, 0, least.size() - 1)) return BAD;
            return in(v, least.get(name), greatest.get(name)) ? numbers.get(i).set(name, v) : BAD;
        }

        int told(int what) {
            int counted = 0;
            for (boolean each : kept) counted += each ? 0 : 1;
            int[] all = {least.size(), rows, terms.size(), odds.size(), counted, f, s, budget};
            return in(what, 0, 7) ? all[what] : BAD;
        }

        boolean isPlan(int plan) {
            return in(plan, 0, (1 << f + s) - 1);
        }

        boolean isFuture(int i) {
            return in(i, 0, odds.size() - 1);
        }

        int sum(int plan, int row, List<Integer> future) {
            int sum = 0;
            for (int[] each : terms) {
                if (each[0] != row) continue;
                int choice = each[1] < 0 ? 1 : plan / (1 << each[1]) % 2;
                sum += each[3] * choice * (each[2] < 0 ? 1 : future.get(each[2]));
            }
            return sum;
        }

        int comes(int plan, int row, int i) {
            if (!isPlan(plan) || !in(row, -1, rows - 1) || (i != -1 && !isFuture(i))) return BAD;
            return sum(plan, row, i == -1 ? usual : numbers.get(i));
        }

        List<List<Integer>> theSet() {
            List<List<Integer>> all = new ArrayList<>();
            collect(new ArrayList<>(), 0, all);
            return all;
        }

        void collect(List<Integer> begun, int others, List<List<Integer>> all) {
            if (others > budget) return;
            int name = begun.size();
            if (name == least.size()) {
                all.add(new ArrayList<>(begun));
                return;
            }
            for (int v = least.get(name); v <= greatest.get(name); v++) {
                begun.add(v);
                collect(begun, others + (v == usual.get(name) ? 0 : 1), all);
                begun.remove(name);
            }
        }

        List<Integer> others(List<Integer> future) {
            List<Integer> others = new ArrayList<>();
            for (int i = 0; i < future.size(); i++) {
                if (!future.get(i).equals(usual.get(i))) others.add(i);
            }
            return others;
        }

        static int atFirstPlace(List<Integer> a, List<Integer> b) {
            for (int i = 0; i < a.size(); i++) {
                if (!a.get(i).equals(b.get(i))) return Integer.compare(a.get(i), b.get(i));
            }
            return 0;
        }

        boolean isWorse(int plan, int row, List<Integer> a, List<Integer> b) {
            int sumA = sum(plan, row, a), sumB = sum(plan, row, b);
            if (sumA != sumB) return sumA > sumB;
            List<Integer> othersA = others(a), othersB = others(b);
            if (othersA.size() != othersB.size()) return othersA.size() < othersB.size();
            int byNames = atFirstPlace(othersA, othersB);
            return byNames != 0 ? byNames < 0 : atFirstPlace(a, b) < 0;
        }

        List<Integer> worstFuture(int plan, int row, List<List<Integer>> set) {
            List<Integer> found = null;
            for (List<Integer> each : set) {
                if (found == null || isWorse(plan, row, each, found)) found = each;
            }
            return found;
        }

        int worst(int plan, int row) {
            if (!isPlan(plan) || !in(row, -1, rows - 1)) return BAD;
            return sum(plan, row, worstFuture(plan, row, theSet()));
        }

        int worstName(int plan, int row, int name) {
            if (!isPlan(plan) || !in(row, -1, rows - 1) || !in(name, 0, least.size() - 1)) return BAD;
            return worstFuture(plan, row, theSet()).get(name);
        }

        boolean holds(int plan, int row, List<List<Integer>> set) {
            for (List<Integer> each : set) {
                if (sum(plan, row, each) > 0) return false;
            }
            return true;
        }

        int breaks(int plan) {
            return isPlan(plan) ? firstBroken(plan, theSet()) : BAD;
        }

        int firstBroken(int plan, List<List<Integer>> set) {
            for (int row = 0; row < rows; row++) {
                if (!holds(plan, row, set)) return row;
            }
            return NONE;
        }

        int safest() {
            List<List<Integer>> set = theSet();
            int found = NONE, cost = 0;
            for (int plan = 0; isPlan(plan); plan++) {
                if (firstBroken(plan, set) != NONE) continue;
                int here = Integer.MIN_VALUE;
                for (List<Integer> each : set) here = Math.max(here, sum(plan, -1, each));
                if (found == NONE || here < cost) {
                    found = plan;
                    cost = here;
                }
            }
            return found;
        }

        boolean holdsIn(int plan, int i) {
            return firstBroken(plan, List.of(numbers.get(i))) == NONE;
        }

        int answer(int first, int i) {
            if (!in(first, 0, (1 << f) - 1) || !isFuture(i)) return BAD;
            int found = NONE;
            for (int plan = first; isPlan(plan); plan += 1 << f) {
                if (!holdsIn(plan, i)) continue;
                if (found == NONE || comes(plan, -1, i) < comes(found, -1, i)) found = plan;
            }
            return found;
        }

        int allOdds() {
            int sum = 0;
            for (int i = 0; i < odds.size(); i++) sum += kept.get(i) ? 0 : odds.get(i);
            return sum;
        }

        boolean isAnswered(int first) {
            for (int i = 0; i < odds.size(); i++) {
                if (!kept.get(i) && answer(first, i) == NONE) return false;
            }
            return allOdds() > 0;
        }

        int answersSum(int first) {
            int sum = 0;
            for (int i = 0; i < odds.size(); i++) {
                if (!kept.get(i)) sum += odds.get(i) * comes(answer(first, i), -1, i);
            }
            return sum;
        }

        int twoStep() {
            int found = NONE;
            for (int first = 0; first < 1 << f; first++) {
                if (isAnswered(first) && (found == NONE || answersSum(first) < answersSum(found))) found = first;
            }
            return found;
        }

        /** The least number below that still makes a whole number above. */
        static int fraction(int above, int below, int part) {
            for (int d = 1; ; d++) {
                long scaled = (long) above * d;
                if (scaled % below == 0) return part == 0 ? (int) (scaled / below) : d;
            }
        }

        int mean(int first, int part) {
            if (!in(first, 0, (1 << f) - 1) || !in(part, 0, 1)) return BAD;
            return isAnswered(first) ? fraction(answersSum(first), allOdds(), part) : NONE;
        }

        int best(int i) {
            if (!isFuture(i)) return BAD;
            int found = NONE;
            for (int first = 0; first < 1 << f; first++) {
                int plan = answer(first, i);
                if (plan != NONE && (found == NONE || comes(plan, -1, i) < found)) found = comes(plan, -1, i);
            }
            return found;
        }

        List<Integer> bests() {
            List<Integer> all = new ArrayList<>();
            for (int i = 0; i < odds.size(); i++) all.add(best(i));
            return all;
        }

        int regret(int first) {
            if (!in(first, 0, (1 << f) - 1)) return BAD;
            return isAnswered(first) ? mostAbove(first, bests()) : NONE;
        }

        int mostAbove(int first, List<Integer> bests) {
            int most = Integer.MIN_VALUE;
            for (int i = 0; i < odds.size(); i++) {
                if (!kept.get(i)) most = Math.max(most, comes(answer(first, i), -1, i) - bests.get(i));
            }
            return most;
        }

        int calmest() {
            List<Integer> bests = bests();
            int found = NONE, least = 0;
            for (int first = 0; first < 1 << f; first++) {
                if (!isAnswered(first)) continue;
                int here = mostAbove(first, bests);
                if (found == NONE || here < least) {
                    found = first;
                    least = here;
                }
            }
            return found;
        }

        int waiting(int part) {
            if (!in(part, 0, 1)) return BAD;
            int first = twoStep();
            if (first == NONE) return NONE;
            int above = answersSum(first);
            for (int i = 0; i < odds.size(); i++) above -= kept.get(i) ? 0 : odds.get(i) * best(i);
            return fraction(above, allOdds(), part);
        }

        int chance(int plan, int part) {
            if (!isPlan(plan) || !in(part, 0, 1)) return BAD;
            if (allOdds() == 0) return NONE;
            int above = 0;
            for (int i = 0; i < odds.size(); i++) above += !kept.get(i) && holdsIn(plan, i) ? odds.get(i) : 0;
            return fraction(above, allOdds(), part);
        }
    }
}
