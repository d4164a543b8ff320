/** The edges that 'Terms' names of hoops, leaks, tries and whole casks, sentence by sentence. */
final class EdgesOfHoopsTest {
    public static void main(String[] args) {
        looseAtFirst();
        sixtyAtMost();
        twoOrOneIfAboveThirty();
        eachBlowLooksAnew();
        aMonthTakesOneOffEach();
        onlyWhileEmpty();
        looserHoopOfAHeight();
        openByJustAsMuch();
        twoHundredthOfBothTogether();
        tenthOfTheTightness();
        eachIsCutByItself();
        neverAtTheBilgeByError();
        crackedNeighbour();
        crackedAtAllHeights();
        triedRanges();
        findLeakByHalves();
        findLeakAmongSeveral();
        triesAreCounted();
        wholeIfBentHeadedAndTight();
        Check.end();
    }

    /** Eight staves of 40 with an error, none of them cracked, and with a moisture of 50 to 310 once they are bent. */
    private static Staveyard cask(int error, int moisture) {
        int before = moisture <= 110 ? 100 : Math.min(moisture, 250 - moisture % 2);
        int fire = moisture <= 110 ? 60 : Math.min(30, (60 + before - moisture) / 2);
        Staveyard yard = new Staveyard();
        for (int log = 0; log < 8; log++) {
            Yards.oneStave(yard, 3, 17, 6, 2);
        }
        for (int left = 800 - before; left > 0; left -= 80) {
            yard.month(Math.min(80, left), 0);
        }
        yard.setJig(error);
        yard.raise(320, 160, 200, 6);
        Check.same("none cracks", yard.bend(0, fire, moisture <= 110 ? moisture - 50 : 60), 0);
        Check.same("the moisture", yard.stave(0, 'm'), moisture);
        return yard;
    }

    private static Staveyard tight() {
        Staveyard yard = Yards.bent(0);
        Check.same("at first", yard.tightness(0, 0), 0);
        return yard;
    }

    /** "A hoop has a tightness, 0 at first": each of the six, before and after bending. */
    private static void looseAtFirst() {
        Staveyard yard = Yards.raised(0);
        for (int hoop = 0; hoop < 6; hoop++) {
            Check.same("raised", yard.tightness(0, hoop), 0);
        }
        yard.bend(0, 20, 20);
        for (int hoop = 0; hoop < 6; hoop++) {
            Check.same("bent", yard.tightness(0, hoop), 0);
            Check.same("driven", yard.drive(0, hoop, hoop + 1), 2 * hoop + 2);
        }
        for (int hoop = 0; hoop < 6; hoop++) {
            Check.same("by itself", yard.tightness(0, hoop), 2 * hoop + 2);
        }
    }

    /** A hoop of the upper end that was driven up to 60, and loosened then. */
    private static Staveyard at(int tightness) {
        Staveyard yard = tight();
        yard.drive(0, 0, 20);
        yard.drive(0, 0, 20);
        yard.drive(0, 0, 20);
        for (int month = 60; month > tightness; month--) {
            yard.month(0, 0);
        }
        Check.same("loosened", yard.tightness(0, 0), tightness);
        return yard;
    }

    /** "at most 60". */
    private static void sixtyAtMost() {
        Check.same("59 and 1", at(59).drive(0, 0, 1), 60);
        Check.same("59 and 2 blows", at(59).drive(0, 0, 2), 60);
        Check.same("60", at(60).drive(0, 0, 1), 60);
        Check.same("60 and 20 blows", at(60).drive(0, 0, 20), 60);
        Check.same("58 and 1", at(58).drive(0, 0, 1), 59);
        Check.same("58 and 2 blows", at(58).drive(0, 0, 2), 60);
        Check.same("41 and 20 blows", at(41).drive(0, 0, 20), 60);
        Check.same("40 and 20 blows", at(40).drive(0, 0, 20), 60);
        Check.same("39 and 20 blows", at(39).drive(0, 0, 20), 59);
    }

    /** "each blow adds 2, or only 1 if it is above 30 then". */
    private static void twoOrOneIfAboveThirty() {
        int[][] dues = {{0, 2}, {1, 3}, {28, 30}, {29, 31}, {30, 32}, {31, 32}, {32, 33}, {59, 60}};
        for (int[] due : dues) {
            Check.same("one blow at " + due[0], at(due[0]).drive(0, 0, 1), due[1]);
        }
    }

    /** "then": each of several blows looks at what the one ahead has made. */
    private static void eachBlowLooksAnew() {
        int[][] dues = {{14, 28}, {15, 30}, {16, 32}, {17, 33}, {20, 36}};
        for (int[] due : dues) {
            Check.same(due[0] + " blows", tight().drive(0, 0, due[0]), due[1]);
        }
        Check.same("29, 31, 32", at(29).drive(0, 0, 2), 32);
        Check.same("30, 32, 33", at(30).drive(0, 0, 2), 33);
        Check.same("31, 32, 33", at(31).drive(0, 0, 2), 33);
    }

    /** "A month in which a cask is empty takes 1 off each, at least 0 staying". */
    private static void aMonthTakesOneOffEach() {
        Staveyard yard = Yards.twoBent();
        for (int hoop = 0; hoop < 6; hoop++) {
            yard.drive(0, hoop, 1);
            yard.drive(1, hoop, 2);
        }
        yard.month(0, 0);
        for (int hoop = 0; hoop < 6; hoop++) {
            Check.same("2 less 1", yard.tightness(0, hoop), 1);
            Check.same("4 less 1", yard.tightness(1, hoop), 3);
        }
        yard.month(80, 60);
        for (int hoop = 0; hoop < 6; hoop++) {
            Check.same("1 less 1", yard.tightness(0, hoop), 0);
            Check.same("3 less 1", yard.tightness(1, hoop), 2);
        }
        yard.month(0, 0);
        Check.same("0 stays", yard.tightness(0, 5), 0);
        Check.same("2 less 1", yard.tightness(1, 5), 1);
        Staveyard refused = Yards.bent(0);
        refused.drive(0, 3, 1);
        Check.refuses("no such month", refused, Check.ARGUMENT, () -> refused.month(81, 0));
        Check.same("that takes nothing off", refused.tightness(0, 3), 2);
    }

    /** "in which a cask is empty": one that holds 1 keeps its hoops, as does one that is kept on a floor. */
    private static void onlyWhileEmpty() {
        Staveyard yard = Yards.twoWhole();
        yard.drive(0, 4, 3);
        yard.drive(1, 4, 3);
        yard.fill(0);
        yard.month(0, 0);
        Check.same("full", yard.tightness(0, 4), 6);
        Check.same("empty", yard.tightness(1, 4), 5);
        yard.pour(0, 6420);
        yard.month(0, 0);
        Check.same("1 within", yard.tightness(0, 4), 6);
        Check.same("empty still", yard.tightness(1, 4), 4);
        Check.same("the last is lost", yard.keep(0, 120, 0), 0);
        Check.same("the yard stands still", yard.tightness(0, 4) + " " + yard.tightness(1, 4), "6 4");
        yard.month(0, 0);
        Check.same("empty now", yard.tightness(0, 4), 5);
    }

    /** "The places 0 and 1 are at the upper end, 2 and 3 at the bilge, 4 and 5 at the lower end"; "as tight as its looser hoop". */
    private static void looserHoopOfAHeight() {
        for (int one = 0; one < 6; one++) {
            for (int other = one + 1; other < 6; other++) {
                Staveyard yard = cask(3, 110);
                yard.drive(0, one, 10);
                yard.drive(0, other, 20);
                boolean isUpper = one == 0 && other == 1;
                boolean isLower = one == 4 && other == 5;
                Check.same("upper, " + one + " and " + other, yard.leaks(0, 3, 0), !isUpper);
                Check.same("lower, " + one + " and " + other, yard.leaks(0, 3, 2), !isLower);
                Check.same("bilge, " + one + " and " + other, yard.leaks(0, 3, 1), false);
            }
        }
        Staveyard yard = cask(3, 110);
        yard.drive(0, 0, 20);
        yard.drive(0, 1, 9);
        Check.same("36 and 18", yard.leaks(0, 3, 0), true);
        yard.drive(0, 1, 1);
        Check.same("36 and 20", yard.leaks(0, 3, 0), false);
        Staveyard turned = cask(3, 110);
        turned.drive(0, 1, 20);
        turned.drive(0, 0, 9);
        Check.same("18 and 36", turned.leaks(0, 3, 0), true);
        turned.drive(0, 0, 1);
        Check.same("20 and 36", turned.leaks(0, 3, 0), false);
    }

    /** "if it is open by more than": by just as much it does not leak, by one more it does. */
    private static void openByJustAsMuch() {
        int[][] dues = {{0, 50, 0}, {1, 50, 1}, {1, 99, 1}, {1, 100, 0}, {2, 100, 1}, {2, 199, 1}, {2, 200, 0}, {3, 200, 1}, {3, 299, 1}, {3, 300, 0}};
        for (int[] due : dues) {
            Staveyard yard = cask(due[0], due[1]);
            Check.same("upper, error " + due[0] + " at " + due[1], yard.leaks(0, 0, 0), due[2] == 1);
            Check.same("lower, error " + due[0] + " at " + due[1], yard.leaks(0, 7, 2), due[2] == 1);
        }
    }

    /** "a 200th of the moisture of both its staves together, cut": 196 and 203 are 399, 196 and 204 are 400. */
    private static void twoHundredthOfBothTogether() {
        for (int place = 0; place < 8; place++) {
            int ahead = (place + 7) % 8;
            Check.same("399, ahead", repairedAt(place, 203).leaks(0, ahead, 0), true);
            Check.same("400, ahead", repairedAt(place, 204).leaks(0, ahead, 0), false);
            Check.same("400, ahead, below", repairedAt(place, 204).leaks(0, ahead, 2), false);
            Check.same("another joint", repairedAt(place, 204).leaks(0, (place + 1) % 8, 0), true);
            Check.same("399, behind", repairedAt(place, 203).leaks(0, place, 0), true);
            Check.same("400, behind", repairedAt(place, 204).leaks(0, place, 0), false);
        }
    }

    /** Errors of 2, and moistures of 196, but for the stave of this place. */
    private static Staveyard repairedAt(int place, int moisture) {
        Staveyard yard = Yards.forties(9);
        yard.setJig(2);
        yard.raise(320, 160, 200, 6);
        yard.bend(0, 20, 60);
        Check.same("those that were bent", yard.stave(0, 'm'), 196);
        yard.month(0, moisture - 176);
        yard.replace(0, place, 8);
        Check.same("the one that came in", yard.stave(8, 'm'), moisture);
        return yard;
    }

    /** The same, with this tightness of each hoop. */
    private static Staveyard driven(int error, int moisture, int tightness) {
        Staveyard yard = cask(error, moisture);
        for (int hoop = 0; hoop < 6; hoop++) {
            yard.drive(0, hoop, 20);
            yard.drive(0, hoop, 20);
            Check.same("as tight as can be", yard.drive(0, hoop, 20), 60);
        }
        for (int month = 60; month > tightness; month--) {
            yard.month(0, 0);
        }
        Check.same("the tightness", yard.tightness(0, 0), tightness);
        return yard;
    }

    /** "plus a tenth of the tightness, cut": with moistures of 50 each, which are none. */
    private static void tenthOfTheTightness() {
        int[][] dues = {{1, 0, 1}, {1, 9, 1}, {1, 10, 0}, {2, 10, 1}, {2, 19, 1}, {2, 20, 0}, {3, 20, 1}, {3, 29, 1}, {3, 30, 0}, {3, 31, 0}, {3, 60, 0}};
        for (int[] due : dues) {
            Staveyard yard = driven(due[0], 50, due[1]);
            Check.same("upper, error " + due[0] + " at " + due[1], yard.leaks(0, 5, 0), due[2] == 1);
            Check.same("lower, error " + due[0] + " at " + due[1], yard.leaks(0, 5, 2), due[2] == 1);
            Check.same("bilge, error " + due[0] + " at " + due[1], yard.leaks(0, 5, 1), false);
        }
    }

    /** Both parts are cut: 1.99 of moisture and 0.9 of tightness let 1 pass, not 2. */
    private static void eachIsCutByItself() {
        Check.same("1 of 1 and 0", driven(1, 199, 9).leaks(0, 0, 0), false);
        Check.same("2 of 1 and 0", driven(2, 199, 9).leaks(0, 0, 0), true);
        Check.same("2 of 1 and 1", driven(2, 199, 10).leaks(0, 0, 0), false);
        Check.same("3 of 1 and 1", driven(3, 199, 19).leaks(0, 0, 0), true);
        Check.same("3 of 1 and 2", driven(3, 199, 20).leaks(0, 0, 0), false);
        Check.same("3 of 2 and 0", driven(3, 200, 9).leaks(0, 0, 0), true);
        Check.same("3 of 2 and 1", driven(3, 200, 10).leaks(0, 0, 0), false);
    }

    /** "at the bilge by 0": it leaks there by cracks alone. */
    private static void neverAtTheBilgeByError() {
        Staveyard yard = cask(3, 50);
        for (int joint = 0; joint < 8; joint++) {
            Check.same("upper", yard.leaks(0, joint, 0), true);
            Check.same("bilge", yard.leaks(0, joint, 1), false);
            Check.same("lower", yard.leaks(0, joint, 2), true);
        }
    }

    private static final int[] PLACE_OF_RANK = {0, 1, 7, 2, 6, 3, 5, 4};

    /** Eight staves of 44, of which one is of region 0 and cracks, in the place that goes with its number. */
    private static Staveyard crackedAs(int number) {
        Staveyard yard = new Staveyard();
        for (int log = 0; log < 8; log++) {
            Yards.oneStave(yard, log == number ? 0 : 3, 16, 9, 4);
        }
        Yards.dry(yard, 8, 78);
        yard.raise(352, 200, 200, 9);
        Check.same("one cracks", yard.bend(0, 0, 20), 1);
        Check.same("in its place", yard.isCracked(0, PLACE_OF_RANK[number]), true);
        return yard;
    }

    /** "if one of both is cracked": the joints on both sides, also where one is behind the last place. */
    private static void crackedNeighbour() {
        for (int number = 0; number < 8; number++) {
            Staveyard yard = crackedAs(number);
            int place = PLACE_OF_RANK[number];
            for (int joint = 0; joint < 8; joint++) {
                boolean isNext = joint == place || (joint + 1) % 8 == place;
                Check.same("cracked at " + place + ", joint " + joint, yard.leaks(0, joint, 0), isNext);
            }
        }
    }

    /** "at all heights", however tight the hoops are. */
    private static void crackedAtAllHeights() {
        Staveyard yard = crackedAs(2);
        for (int hoop = 0; hoop < 6; hoop++) {
            yard.drive(0, hoop, 20);
            yard.drive(0, hoop, 20);
            Check.same("as tight as can be", yard.drive(0, hoop, 20), 60);
        }
        for (int height = 0; height < 3; height++) {
            Check.same("the last joint", yard.leaks(0, 7, height), true);
            Check.same("the last but one", yard.leaks(0, 6, height), true);
            Check.same("the first", yard.leaks(0, 0, height), false);
        }
    }

    /** tryAir: "if one of them leaks", of those from the first to the one behind the last. */
    private static void triedRanges() {
        Staveyard yard = crackedAs(6);
        int place = PLACE_OF_RANK[6];
        int tries = 0;
        for (int from = 0; from < 8; from++) {
            for (int to = from + 1; to <= 8; to++) {
                boolean isWithin = from <= place && place < to || from <= place - 1 && place - 1 < to;
                Check.same("from " + from + " to " + to, yard.tryAir(0, from, to), isWithin);
                tries++;
            }
        }
        Check.same("all are tries", yard.tries(), tries);
        Staveyard last = crackedAs(2);
        Check.same("the last joint alone", last.tryAir(0, 7, 8), true);
        Check.same("without the last two", last.tryAir(0, 0, 6), false);
        Staveyard first = crackedAs(0);
        Check.same("the first joint alone", first.tryAir(0, 0, 1), true);
        Check.same("the joint behind the last place, ahead of the bung", first.tryAir(0, 7, 8), true);
        Check.same("those between", first.tryAir(0, 1, 7), false);
    }

    /** A ring of 9 or of 8 staves of 41 in which the joints at these places alone leak. */
    private static Staveyard leakingAt(int size, int... places) {
        Staveyard yard = new Staveyard();
        for (int log = 0; log < 10; log++) {
            Yards.oneCleft(yard, 3, 24, 9, 7);
        }
        Yards.dry(yard, 8, 78);
        yard.raise(size * 41, 300, 300, 9);
        Check.same("the size", yard.size(0), size);
        yard.bend(0, 60, 60);
        yard.setJig(3);
        for (int place : places) {
            yard.replace(0, place, widestLeft(yard));
        }
        return yard;
    }

    private static int widestLeft(Staveyard yard) {
        int widest = -1;
        for (int stave = 0; stave < yard.staves(); stave++) {
            if (yard.isWhere(stave) == 's' && (widest < 0 || yard.stave(stave, 'w') > yard.stave(widest, 'w'))) {
                widest = stave;
            }
        }
        return widest;
    }

    /** "all are tried, then always the first half, cut, of those among which it is, until one is left". */
    private static void findLeakByHalves() {
        int[] triesOfNine = {4, 4, 4, 4, 4, 4, 4, 5, 5};
        for (int joint = 0; joint < 9; joint++) {
            Staveyard yard = leakingAt(9, joint);
            Check.same("of nine", yard.findLeak(0), joint);
            Check.same("tries for " + joint, yard.tries(), triesOfNine[joint]);
        }
        for (int joint = 0; joint < 8; joint++) {
            Staveyard yard = leakingAt(8, joint);
            Check.same("of eight", yard.findLeak(0), joint);
            Check.same("tries for " + joint, yard.tries(), 4);
        }
    }

    /** "the first joint that leaks". */
    private static void findLeakAmongSeveral() {
        Check.same("3 and 8", leakingAt(9, 8, 3).findLeak(0), 3);
        Check.same("7 and 8", leakingAt(9, 7, 8).findLeak(0), 7);
        Check.same("0 and 8", leakingAt(9, 0, 8).findLeak(0), 0);
        Check.same("4, 5 and 6", leakingAt(9, 6, 5, 4).findLeak(0), 4);
        Check.same("cracked in the place 0: the joints 7 and 0", crackedAs(0).findLeak(0), 0);
        Check.same("cracked in the last place: the joints 6 and 7", crackedAs(2).findLeak(0), 6);
        Check.same("all", cask(3, 50).findLeak(0), 0);
    }

    /** "which counts as a try"; those of a search count one by one, those that find nothing as well. */
    private static void triesAreCounted() {
        Staveyard yard = Yards.twoWhole();
        Check.same("none", yard.tries(), 0);
        Check.same("tight", yard.tryAir(0, 0, 9), false);
        Check.same("one", yard.tries(), 1);
        Check.same("tight, too", yard.tryAir(1, 3, 4), false);
        Check.same("of both casks", yard.tries(), 2);
        Check.refuses("none leaks", yard, Check.NO_ELEMENT, () -> yard.findLeak(1));
        Check.same("three", yard.tries(), 3);
        Check.refuses("no range", yard, Check.ARGUMENT, () -> yard.tryAir(1, 4, 4));
        Check.refuses("no cask", yard, Check.INDEX, () -> yard.tryAir(2, 0, 1));
        Check.refuses("no cask to search", yard, Check.INDEX, () -> yard.findLeak(2));
        Check.same("still three", yard.tries(), 3);
        yard.isWhole(0);
        yard.isSound();
        yard.leaks(0, 0, 0);
        yard.fill(0);
        yard.keep(0, 3, 0);
        Check.same("nothing else is a try", yard.tries(), 3);
    }

    /** "A cask is whole if it was bent, both heads fit, and no joint leaks". */
    private static void wholeIfBentHeadedAndTight() {
        Check.same("raised", Yards.raised(0).isWhole(0), false);
        Check.same("bent", Yards.bent(0).isWhole(0), false);
        Check.same("with both heads", Yards.whole().isWhole(0), true);
        for (int end = 0; end < 2; end++) {
            Staveyard yard = Yards.bent(0);
            Yards.head(yard, 0, end, 3);
            yard.groove(0, 1 - end, 3);
            Check.same("one head alone", yard.isWhole(0), false);
        }
        for (int joint = 0; joint < 9; joint++) {
            Staveyard yard = leakingAt(9, joint);
            Yards.head(yard, 0, 0, 3);
            Yards.head(yard, 0, 1, 3);
            Check.same("the joint " + joint + " leaks", yard.isWhole(0), false);
            for (int hoop : new int[] {0, 1, 4, 5}) {
                yard.drive(0, hoop, 15);
            }
            Check.same("it was driven", yard.isWhole(0), true);
        }
        for (int height = 0; height < 3; height += 2) {
            Staveyard yard = leakingAt(9, 8);
            Yards.head(yard, 0, 0, 3);
            Yards.head(yard, 0, 1, 3);
            for (int hoop : new int[] {2, 3, 2 * height, 2 * height + 1}) {
                yard.drive(0, hoop, 15);
            }
            Check.same("tight at " + height + " alone", yard.isWhole(0), false);
        }
        Staveyard full = Yards.filled();
        Check.same("full", full.isWhole(0), true);
    }
}
