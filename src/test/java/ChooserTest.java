import java.util.ArrayList;
import java.util.List;

/** Promises 13 to 15: what leastSum, leastSumAnew and raise choose, against plain ways of choosing. */
final class ChooserTest {
    private static final int MOST = 24;

    /** A row of numbers that look arbitrary and are always the same. */
    private static final class Numbers {
        private long state;

        Numbers(long seed) {
            state = seed;
        }

        int below(int bound) {
            state = state * 6364136223846793005L + 1442695040888963407L;
            return (int) Math.floorMod(state >>> 33, (long) bound);
        }
    }

    public static void main(String[] args) {
        for (int seed = 0; seed < 300; seed++) {
            few(seed);
        }
        for (int seed = 0; seed < 12; seed++) {
            many(seed);
        }
        oneTooWideByOne();
        Check.end();
    }

    /** Six of 46, then one of 83, one of 63 and one of 43, then 40 and 42: 83 is 1 more than what the last two make. */
    private static void oneTooWideByOne() {
        Staveyard yard = new Staveyard();
        for (int log = 0; log < 6; log++) {
            Yards.oneStave(yard, 0, 17, 9, 4);
        }
        Yards.oneCleft(yard, 0, 35, 9, 7);
        Yards.oneStave(yard, 0, 17, 9, 2);
        Yards.oneStave(yard, 0, 12, 9, 6);
        Yards.dry(yard, 8, 70);
        Check.same("six of 46, 40 and 42", yard.leastSum(358, 9), 358);
        Check.same("the same anew", yard.leastSumAnew(358, 9), 358);
        Check.same("raised of them", yard.raise(358, 357, 357, 9), 0);
        Check.same("neither 83 nor 63", ringOf(yard), List.of(0, 1, 2, 3, 4, 5, 9, 10));
    }

    private static void few(int seed) {
        Numbers numbers = new Numbers(seed);
        Staveyard yard = new Staveyard();
        int wanted = 8 + numbers.below(7);
        for (int log = 0; log < 10 && candidates(yard, 9, true).size() < wanted; log++) {
            yard.addLog(numbers.below(4), 20 + numbers.below(41), 9 + (numbers.below(8) == 0 ? 1 : 0));
            int clear = numbers.below(8);
            for (int cleft = 0; cleft < 8; cleft++) {
                if (cleft != clear && (cleft != (clear + 3) % 8 || numbers.below(2) == 0)) {
                    yard.knot(log, cleft);
                }
            }
            yard.split(log);
        }
        Yards.dry(yard, 8, 70);
        for (int month = numbers.below(3); month > 0; month--) {
            yard.month(0, 60);
            yard.turnStack();
        }
        List<Integer> all = candidates(yard, 9, false);
        int total = sumOf(yard, all);
        if (all.size() <= 14) {
            compare("few " + seed, yard, 320 + numbers.below(Math.max(1, Math.min(2680, total - 250))), plainSet(yard, all));
        }
    }

    private interface Way {
        List<Integer> least(int target);
    }

    private static void many(int seed) {
        Numbers numbers = new Numbers(1000 + seed);
        Staveyard yard = new Staveyard();
        for (int log = 0; log < 10; log++) {
            yard.addLog(numbers.below(4), 20 + numbers.below(41), 9);
            for (int knots = numbers.below(5); knots > 0; knots--) {
                yard.knot(log, numbers.below(8));
            }
            try {
                yard.split(log);
            } catch (IllegalStateException e) {
                continue;
            }
        }
        Yards.dry(yard, 8, 70);
        List<Integer> all = candidates(yard, 9, false);
        compare("many " + seed, yard, 320 + numbers.below(2681), tabledSet(yard, all));
    }

    private static void compare(String what, Staveyard yard, int target, Way way) {
        List<Integer> due = way.least(target);
        if (due.isEmpty()) {
            Check.refuses(what + " leastSum", yard, Check.NO_ELEMENT, () -> yard.leastSum(target, 9));
            Check.refuses(what + " leastSumAnew", yard, Check.NO_ELEMENT, () -> yard.leastSumAnew(target, 9));
            Check.refuses(what + " raise", yard, Check.NO_ELEMENT, () -> yard.raise(target, target - 1, target - 1, 9));
            return;
        }
        int sum = sumOf(yard, due);
        Check.same(what + " leastSum", yard.leastSum(target, 9), sum);
        if (candidates(yard, 9, false).size() > 14) {
            Check.refuses(what + " leastSumAnew", yard, Check.UNSUPPORTED, () -> yard.leastSumAnew(target, 9));
        } else {
            Check.same(what + " leastSumAnew", yard.leastSumAnew(target, 9), sum);
        }
        int last = due.get(due.size() - 1);
        int kept = yard.stave(last, 'w') - (sum - target);
        if (kept < 20) {
            Check.refuses(what + " raise", yard, Check.UNSUPPORTED, () -> yard.raise(target, target - 1, target - 1, 9));
            return;
        }
        Check.same(what + " raise", yard.raise(target, target - 1, target - 1, 9), 0);
        Check.same(what + " set", ringOf(yard), due);
        Check.same(what + " what the last keeps", yard.stave(last, 'w'), kept);
        Check.same(what + " isSound", yard.isSound(), true);
    }

    private static List<Integer> candidates(Staveyard yard, int length, boolean green) {
        List<Integer> all = new ArrayList<>();
        for (int stave = 0; stave < yard.staves(); stave++) {
            if (yard.stave(stave, 'l') == length && (green || yard.stave(stave, 'm') <= 250)) {
                all.add(stave);
            }
        }
        return all;
    }

    private static int sumOf(Staveyard yard, List<Integer> set) {
        int sum = 0;
        for (int stave : set) {
            sum += yard.stave(stave, 'w');
        }
        return sum;
    }

    private static List<Integer> ringOf(Staveyard yard) {
        List<Integer> set = new ArrayList<>();
        for (int place = 0; place < yard.size(0); place++) {
            set.add(yard.at(0, place));
        }
        set.sort(null);
        return set;
    }

    private static boolean isBefore(List<Integer> one, List<Integer> other) {
        for (int index = 0; index < one.size(); index++) {
            if (!one.get(index).equals(other.get(index))) {
                return one.get(index) < other.get(index);
            }
        }
        return false;
    }

    /** Looks at each set there is. */
    private static Way plainSet(Staveyard yard, List<Integer> all) {
        return target -> {
            List<Integer> best = new ArrayList<>();
            int least = 0;
            for (int bits = 0; bits < 1 << all.size(); bits++) {
                List<Integer> set = new ArrayList<>();
                for (int index = 0; index < all.size(); index++) {
                    if ((bits >> index & 1) == 1) {
                        set.add(all.get(index));
                    }
                }
                int sum = set.size() < 8 ? 0 : sumOf(yard, set);
                boolean isBetter = sum >= target && (best.isEmpty() || sum < least
                    || sum == least && (set.size() < best.size() || set.size() == best.size() && isBefore(set, best)));
                if (isBetter) {
                    best = set;
                    least = sum;
                }
            }
            return best;
        };
    }

    /** Keeps the first set of each sum and count, as staves come by rising numbers. */
    private static Way tabledSet(Staveyard yard, List<Integer> all) {
        return target -> {
            List<List<List<Integer>>> first = new ArrayList<>();
            for (int count = 0; count <= MOST; count++) {
                List<List<Integer>> row = new ArrayList<>();
                for (int sum = 0; sum <= 3200; sum++) {
                    row.add(null);
                }
                first.add(row);
            }
            first.get(0).set(0, new ArrayList<>());
            for (int stave : all) {
                addTo(first, stave, yard.stave(stave, 'w'));
            }
            for (int sum = target; sum <= 3200; sum++) {
                for (int count = 8; count <= MOST; count++) {
                    if (first.get(count).get(sum) != null) {
                        return first.get(count).get(sum);
                    }
                }
            }
            return new ArrayList<>();
        };
    }

    private static void addTo(List<List<List<Integer>>> first, int stave, int width) {
        for (int count = MOST; count > 0; count--) {
            for (int sum = 3200; sum >= width; sum--) {
                List<Integer> without = first.get(count - 1).get(sum - width);
                if (without != null) {
                    List<Integer> with = new ArrayList<>(without);
                    with.add(stave);
                    List<Integer> there = first.get(count).get(sum);
                    if (there == null || isBefore(with, there)) {
                        first.get(count).set(sum, with);
                    }
                }
            }
        }
    }
}
