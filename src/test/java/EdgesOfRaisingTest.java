/** The edges that 'Terms' names of raising and of joints, sentence by sentence. */
final class EdgesOfRaisingTest {
    public static void main(String[] args) {
        seasoned();
        ofThisLength();
        ofTheStack();
        eightAtLeast();
        twentyFourAtMost();
        sumMetJustSo();
        asLittleAsCanBe();
        farMoreThanTheSum();
        sumsOfEachWidth();
        fewestStaves();
        numbersThatAreTheFirst();
        comparedOneByOne();
        cutOffTheHighestNumber();
        keepsTwentyAtLeast();
        fallingWidthsAsTheyAreCut();
        placesOfEvenAndOddRings();
        bungInPlaceZero();
        casksNumbered();
        noTenthsMissing();
        likeRestsByPlaces();
        greatestRestsFirst();
        errorAtTheEndsAlone();
        errorAsRaisedOrComeIn();
        openByTheStaveAhead();
        closingOfEachHeight();
        Check.end();
    }

    private static Staveyard eightAt(int moisture) {
        Staveyard yard = new Staveyard();
        for (int log = 0; log < 8; log++) {
            Yards.oneStave(yard, 3, 17, 6, 2);
        }
        for (int left = 800 - moisture; left > 0; left -= 80) {
            yard.month(Math.min(80, left), 0);
        }
        return yard;
    }

    /** "seasoned staves of the stack, with a moisture of 250 at most". */
    private static void seasoned() {
        Twins.refuses("raise, at 251", () -> eightAt(251), Check.NO_ELEMENT, yard -> yard.raise(320, 200, 200, 6));
        Twins.refuses("leastSum, at 251", () -> eightAt(251), Check.NO_ELEMENT, yard -> yard.leastSum(320, 6));
        Twins.refuses("leastSumAnew, at 251", () -> eightAt(251), Check.NO_ELEMENT, yard -> yard.leastSumAnew(320, 6));
        Twins.takes("raise, at 250", () -> eightAt(250), 0, yard -> yard.raise(320, 200, 200, 6));
        Twins.takes("leastSum, at 250", () -> eightAt(250), 320, yard -> yard.leastSum(320, 6));
        Twins.takes("leastSumAnew, at 250", () -> eightAt(250), 320, yard -> yard.leastSumAnew(320, 6));
        Staveyard yard = eightAt(250);
        yard.month(0, 1);
        Check.refuses("one of eight at 251", yard, Check.NO_ELEMENT, () -> yard.raise(320, 200, 200, 6));
        yard.month(1, 0);
        Check.same("dry again", yard.raise(320, 200, 200, 6), 0);
    }

    /** "and of this length": seven of 6 and one of 7 are no eight. */
    private static void ofThisLength() {
        Staveyard yard = new Staveyard();
        for (int log = 0; log < 8; log++) {
            Yards.oneStave(yard, 3, 17, log == 7 ? 7 : 6, 2);
        }
        Yards.dry(yard, 8, 78);
        Check.refuses("of 6", yard, Check.NO_ELEMENT, () -> yard.raise(320, 200, 200, 6));
        Check.refuses("of 7", yard, Check.NO_ELEMENT, () -> yard.raise(320, 200, 200, 7));
        Yards.oneStave(yard, 3, 17, 6, 2);
        Yards.dry(yard, 8, 78);
        Check.same("one more of 6", yard.raise(320, 200, 200, 6), 0);
        Check.same("that of 7 stays", yard.isWhere(7), 's');
    }

    /** "of the stack": neither those of a cask nor those thrown away. */
    private static void ofTheStack() {
        Staveyard yard = Yards.forties(9);
        yard.raise(320, 200, 200, 6);
        yard.bend(0, 60, 60);
        yard.replace(0, 0, 8);
        Check.same("thrown away", yard.isWhere(0), 'x');
        for (int moisture = yard.stave(0, 'm'); moisture > 250; moisture -= 80) {
            yard.month(80, 0);
        }
        Check.refuses("none is left", yard, Check.NO_ELEMENT, () -> yard.leastSum(320, 6));
        Yards.oneStave(yard, 0, 17, 6, 2);
        Yards.dry(yard, 8, 78);
        Check.refuses("one is left", yard, Check.NO_ELEMENT, () -> yard.leastSum(320, 6));
    }

    /** "8 to 24 of them": seven would be enough for the sum, but eight are taken. */
    private static void eightAtLeast() {
        Staveyard yard = Yards.widest();
        Check.same("the narrowest eight, 6 of 50 and 2 of 53", yard.leastSum(320, 9), 406);
        Check.same("the same", yard.leastSum(406, 9), 406);
        Check.same("one 53 more", yard.leastSum(407, 9), 409);
        Check.same("seven of 40 would do for 280, not for 320", Yards.forties(10).leastSum(320, 6), 320);
        Check.same("nine for one more", Yards.forties(10).leastSum(321, 6), 360);
        Check.same("anew", Yards.forties(10).leastSumAnew(321, 6), 360);
        Staveyard wide = new Staveyard();
        for (int log = 0; log < 8; log++) {
            Yards.oneStave(wide, 0, 17, 6, 7);
        }
        Yards.dry(wide, 8, 78);
        Check.same("eight of 55, where six would do", wide.leastSum(320, 6), 440);
        Check.same("eight of 55, anew", wide.leastSumAnew(320, 6), 440);
        Check.refuses("too much to be cut", wide, Check.UNSUPPORTED, () -> wide.raise(404, 300, 300, 6));
        Check.same("just what can be cut", wide.raise(405, 300, 300, 6), 0);
        Check.same("eight", wide.size(0), 8);
    }

    /** "8 to 24 of them": the 24 widest of 37 make 2461; 25 would make more. */
    private static void twentyFourAtMost() {
        Twins.takes("leastSum of 24", Yards::seasoned, 2461, yard -> yard.leastSum(2461, 9));
        Twins.refuses("leastSum of 25", Yards::seasoned, Check.NO_ELEMENT, yard -> yard.leastSum(2462, 9));
        Twins.refuses("raise of 25", Yards::seasoned, Check.NO_ELEMENT, yard -> yard.raise(2462, 2000, 2000, 9));
        Staveyard yard = Yards.seasoned();
        yard.raise(2461, 2000, 2000, 9);
        Check.same("24", yard.size(0), 24);
        Check.same("13 are left", yard.stacked(), 13);
        Check.same("nothing is cut", yard.widths(), 3195L);
        Check.same("sound", yard.isSound(), true);
    }

    /** "whose widths are at least the sum of the bilge together": just the sum is enough, and nothing is cut. */
    private static void sumMetJustSo() {
        Twins.takes("384", Yards::nine, 384, yard -> yard.leastSum(384, 6));
        Twins.takes("384 anew", Yards::nine, 384, yard -> yard.leastSumAnew(384, 6));
        Staveyard yard = Yards.nine();
        yard.raise(384, 300, 300, 6);
        Check.same("the highest number is not cut", yard.stave(8, 'w'), 41);
        Check.same("nothing is gone", yard.widths(), 445L);
        Twins.takes("445, all nine", Yards::nine, 445, yard9 -> yard9.leastSum(445, 6));
        Twins.takes("445, all nine, anew", Yards::nine, 445, yard9 -> yard9.leastSumAnew(445, 6));
    }

    /** "but as little as can be": without one of 40 to 61, eight of nine make 445 less its width. */
    private static void asLittleAsCanBe() {
        int[][] dues = {{383, 384}, {385, 387}, {387, 387}, {388, 390}, {399, 399}, {400, 402}, {402, 402}, {403, 404}, {404, 404},
            {405, 405}, {406, 445}};
        for (int[] due : dues) {
            Twins.takes("leastSum " + due[0], Yards::nine, due[1], yard -> yard.leastSum(due[0], 6));
            Twins.takes("leastSumAnew " + due[0], Yards::nine, due[1], yard -> yard.leastSumAnew(due[0], 6));
        }
    }

    /** Ten of 133 alone are left in the stack: eight of them are the least for a sum of 320. */
    private static Staveyard tenOf133() {
        Staveyard yard = new Staveyard();
        for (int log = 0; log < 10; log++) {
            Yards.oneCleft(yard, 1, 60, 9, 7);
        }
        Yards.dry(yard, 8, 78);
        for (int cask = 0; cask < 5; cask++) {
            int narrowest = yard.leastSum(320, 9);
            yard.raise(narrowest, narrowest - 1, narrowest - 1, 9);
        }
        Check.same("left", yard.stacked(), 10);
        for (int index = 0; index < 10; index++) {
            Check.same("of 133", yard.stave(yard.inStack(index), 'w'), 133);
        }
        return yard;
    }

    /** As little as can be may still be far more than the sum, up to the widest stave but 1. */
    private static void farMoreThanTheSum() {
        int[][] dues = {{320, 1064}, {1064, 1064}, {1065, 1197}, {1197, 1197}, {1198, 1330}, {1330, 1330}};
        for (int[] due : dues) {
            Twins.takes("leastSum " + due[0], EdgesOfRaisingTest::tenOf133, due[1], yard -> yard.leastSum(due[0], 9));
            Twins.takes("leastSumAnew " + due[0], EdgesOfRaisingTest::tenOf133, due[1], yard -> yard.leastSumAnew(due[0], 9));
        }
        Twins.refuses("more than all", EdgesOfRaisingTest::tenOf133, Check.NO_ELEMENT, yard -> yard.leastSum(1331, 9));
        Twins.refuses("cut too much", EdgesOfRaisingTest::tenOf133, Check.UNSUPPORTED, yard -> yard.raise(950, 900, 900, 9));
        Twins.takes("cut by 113", EdgesOfRaisingTest::tenOf133, 5, yard -> yard.raise(951, 900, 900, 9));
    }

    /** Nine staves, among them those of each cleft of each log there can be: what all but one of them make is met just so. */
    private static void sumsOfEachWidth() {
        for (int radius = 24; radius <= 60; radius++) {
            for (int cleft = 0; cleft < 8; cleft++) {
                Staveyard yard = new Staveyard();
                Yards.oneCleft(yard, 0, radius, 6, cleft);
                int own = yard.staves();
                int sum = (int) yard.widths();
                for (int log = 0; own + log < 9; log++) {
                    int away = 8 + (radius + 3 * log) % 10;
                    Yards.oneStave(yard, 0, Math.max(10, away), 6, 7);
                    sum += 2 * Math.max(10, away) + 21;
                }
                Yards.dry(yard, 8, 78);
                Check.same("all of them", yard.leastSum(sum, 6), sum);
                for (int stave = 0; stave < 9; stave++) {
                    int rest = sum - yard.stave(stave, 'w');
                    if (rest >= 320) {
                        Check.same("without " + stave, yard.leastSum(rest, 6), rest);
                        Check.same("anew, without " + stave, yard.leastSumAnew(rest, 6), rest);
                    }
                }
            }
        }
    }

    private static String chosen(Staveyard yard) {
        StringBuilder text = new StringBuilder();
        for (int stave = 0; stave < yard.staves(); stave++) {
            if (yard.isWhere(stave) == 'c') {
                text.append(stave).append(' ');
            }
        }
        return text.toString();
    }

    /** "of several sets the one with the fewest staves": eight of 60, not six of 60 and three of 40 with lower numbers. */
    private static void fewestStaves() {
        Staveyard yard = new Staveyard();
        for (int log = 0; log < 8; log++) {
            Yards.oneCleft(yard, 0, 34, 6, 0);
        }
        Yards.dry(yard, 8, 78);
        Check.same("60 and 40 in turn", yard.stave(0, 'w') + " " + yard.stave(1, 'w'), "60 40");
        yard.raise(480, 300, 300, 6);
        Check.same("eight of 60", chosen(yard), "0 2 4 6 8 10 12 14 ");
        Staveyard more = new Staveyard();
        for (int log = 0; log < 8; log++) {
            Yards.oneCleft(more, 0, 34, 6, 0);
        }
        Yards.dry(more, 8, 78);
        more.raise(520, 300, 300, 6);
        Check.same("520 of nine at least: eight of 60 and one of 40", chosen(more), "0 1 2 4 6 8 10 12 14 ");
    }

    /** Ten staves, a log each, of a length of 6 and these widths: 55, or odd ones of 41 to 47. */
    private static Staveyard tenOf(int... widths) {
        Staveyard yard = new Staveyard();
        for (int width : widths) {
            Yards.oneStave(yard, 0, width == 55 ? 17 : (width - 21) / 2, 6, 7);
        }
        Yards.dry(yard, 8, 78);
        for (int stave = 0; stave < widths.length; stave++) {
            Check.same("width", yard.stave(stave, 'w'), widths[stave]);
        }
        return yard;
    }

    /** "then the one whose numbers, rising, are the first": 41 and 47 are as much as 43 and 45, of which two go with six of 55. */
    private static void numbersThatAreTheFirst() {
        Staveyard yard = tenOf(41, 43, 45, 55, 55, 55, 55, 55, 55, 47);
        yard.raise(418, 300, 300, 6);
        Check.same("0 and 9, not 1 and 2", chosen(yard), "0 3 4 5 6 7 8 9 ");
        Staveyard other = tenOf(43, 41, 47, 55, 55, 55, 55, 55, 55, 45);
        other.raise(418, 300, 300, 6);
        Check.same("0 and 9 again", chosen(other), "0 3 4 5 6 7 8 9 ");
        Staveyard near = tenOf(41, 47, 43, 55, 55, 55, 55, 55, 55, 45);
        near.raise(418, 300, 300, 6);
        Check.same("0 and 1", chosen(near), "0 1 3 4 5 6 7 8 ");
        Staveyard alike = Yards.forties(10);
        alike.raise(320, 200, 200, 6);
        Check.same("of like ones the first", chosen(alike), "0 1 2 3 4 5 6 7 ");
        Staveyard turned = Yards.forties(10);
        turned.turnStack();
        turned.raise(320, 200, 200, 6);
        Check.same("by numbers, not by the stack", chosen(turned), "0 1 2 3 4 5 6 7 ");
    }

    /** "compared one by one": the first that differs decides, not what comes behind it. */
    private static void comparedOneByOne() {
        Staveyard yard = tenOf(55, 41, 43, 45, 55, 55, 55, 55, 55, 47);
        yard.raise(418, 300, 300, 6);
        Check.same("0 in both, then 1 and 9", chosen(yard), "0 1 4 5 6 7 8 9 ");
        Staveyard late = tenOf(55, 55, 55, 55, 55, 55, 43, 41, 47, 45);
        late.raise(418, 300, 300, 6);
        Check.same("six in both, then 6 and 9", chosen(late), "0 1 2 3 4 5 6 9 ");
    }

    /** "What is more than the sum is cut off the one with the highest number", though it be neither the widest nor the narrowest. */
    private static void cutOffTheHighestNumber() {
        Staveyard yard = Yards.nine();
        Check.same("402", yard.leastSum(400, 6), 402);
        yard.raise(400, 300, 300, 6);
        Check.same("2 off the last", yard.stave(8, 'w'), 39);
        Check.same("no other is cut", yard.widths(), 443L);
        Staveyard wide = tenOf(41, 41, 41, 41, 41, 41, 41, 55);
        wide.raise(330, 300, 300, 6);
        Check.same("342 less 12, off the widest", wide.stave(7, 'w'), 43);
    }

    /** "which keeps at least 20", though it is a stave of 40 at least otherwise. */
    private static void keepsTwentyAtLeast() {
        Twins.takes("20", Yards::nine, 0, yard -> yard.raise(363, 300, 300, 6));
        Twins.refuses("19", Yards::nine, Check.UNSUPPORTED, yard -> yard.raise(362, 300, 300, 6));
        Staveyard yard = Yards.nine();
        yard.raise(363, 300, 300, 6);
        Check.same("it keeps 20", yard.stave(8, 'w'), 20);
        Check.same("the bilge is met", bilge(yard), 3630);
        Twins.Maker eight = () -> tenOf(43, 43, 43, 43, 43, 43, 43, 55);
        Twins.takes("20 of 55", eight, 0, one -> one.raise(321, 300, 300, 6));
        Twins.refuses("19 of 55", eight, Check.UNSUPPORTED, one -> one.raise(320, 300, 300, 6));
    }

    private static int bilge(Staveyard yard) {
        int sum = 0;
        for (int place = 0; place < yard.size(0); place++) {
            sum += yard.width(0, place, 1);
        }
        return sum;
    }

    private static String ring(Staveyard yard) {
        StringBuilder text = new StringBuilder();
        for (int place = 0; place < yard.size(0); place++) {
            text.append(yard.at(0, place)).append(' ');
        }
        return text.toString();
    }

    private static String ringOfCut(int bilge) {
        Staveyard yard = tenOf(43, 43, 43, 43, 43, 43, 43, 55);
        yard.raise(bilge, 300, 300, 6);
        return ring(yard);
    }

    /** "by falling widths, as they are cut, of like ones by rising numbers": the last, of 55, is cut to 42, 43 or 44. */
    private static void fallingWidthsAsTheyAreCut() {
        Check.same("44 comes first", ringOfCut(345), "7 0 2 4 6 5 3 1 ");
        Check.same("43 comes last of like ones", ringOfCut(344), "0 1 3 5 7 6 4 2 ");
        Check.same("42 comes last", ringOfCut(343), "0 1 3 5 7 6 4 2 ");
        Check.same("not cut, it comes first", ringOfCut(356), "7 0 2 4 6 5 3 1 ");
        Staveyard yard = tenOf(41, 43, 43, 43, 43, 43, 43, 55);
        yard.raise(341, 300, 300, 6);
        Check.same("42 ahead of the 41", ring(yard), "1 2 4 6 0 7 5 3 ");
        Staveyard like = tenOf(41, 43, 43, 43, 43, 43, 43, 55);
        like.raise(340, 300, 300, 6);
        Check.same("41 behind the 41 with the lower number", ring(like), "1 2 4 6 7 0 5 3 ");
    }

    /** "at the places 0, 1, the last one, 2, the last but one, and so on". */
    private static void placesOfEvenAndOddRings() {
        Staveyard even = tenOf(41, 41, 41, 41, 41, 41, 41, 41);
        even.raise(328, 300, 300, 6);
        Check.same("eight", ring(even), "0 1 3 5 7 6 4 2 ");
        Staveyard odd = tenOf(41, 41, 41, 41, 41, 41, 41, 41, 41);
        odd.raise(369, 300, 300, 6);
        Check.same("nine", ring(odd), "0 1 3 5 7 8 6 4 2 ");
        Staveyard ten = tenOf(41, 41, 41, 41, 41, 41, 41, 41, 41, 41);
        ten.raise(410, 300, 300, 6);
        Check.same("ten", ring(ten), "0 1 3 5 7 9 8 6 4 2 ");
        Staveyard nine = Yards.nine();
        nine.raise(445, 300, 300, 6);
        Check.same("nine of which all differ", ring(nine), "7 6 4 2 8 0 1 3 5 ");
        Staveyard most = Yards.seasoned();
        most.raise(2461, 2000, 2000, 9);
        int[] ranks = new int[24];
        for (int rank = 0; rank < 24; rank++) {
            ranks[rank == 0 ? 0 : rank % 2 == 1 ? (rank + 1) / 2 : 24 - rank / 2] = rank;
        }
        for (int place = 0; place < 24; place++) {
            for (int other = 0; other < 24; other++) {
                int width = most.stave(most.at(0, place), 'w');
                int its = most.stave(most.at(0, other), 'w');
                boolean isAhead = width > its || width == its && most.at(0, place) < most.at(0, other);
                Check.same("24, " + place + " and " + other, isAhead, ranks[place] < ranks[other]);
            }
        }
    }

    /** "the bung is in the place 0": the widest one stands there. */
    private static void bungInPlaceZero() {
        Staveyard yard = tenOf(41, 41, 41, 41, 43, 41, 41, 41);
        yard.raise(330, 300, 300, 6);
        Check.same("the widest", yard.at(0, 0), 4);
        Check.same("sound", yard.isSound(), true);
    }

    /** "At most 12 casks are numbered from 0"; 80 staves are enough for ten. */
    private static void casksNumbered() {
        Staveyard yard = Yards.tenCasks();
        for (int cask = 0; cask < 10; cask++) {
            Check.same("size", yard.size(cask), 8);
            Check.same("its staves are of its log", yard.stave(yard.at(cask, 7), 'g'), cask);
        }
        Check.same("none is left", yard.stacked(), 0);
        Check.same("numbered as they are raised", Yards.nine().raise(384, 300, 300, 6), 0);
        Check.same("the second", Yards.raised(0).raise(1000, 840, 830, 9), 1);
    }

    private static String widthsAt(Staveyard yard, int height) {
        StringBuilder text = new StringBuilder();
        for (int place = 0; place < yard.size(0); place++) {
            text.append(yard.width(0, place, height)).append(' ');
        }
        return text.toString();
    }

    private static Staveyard fortiesWithEnds(int upper, int lower) {
        Staveyard yard = Yards.forties(8);
        yard.raise(320, upper, lower, 6);
        return yard;
    }

    /** "the tenths that are missing": none are, where each division is even. */
    private static void noTenthsMissing() {
        Staveyard yard = fortiesWithEnds(160, 200);
        Check.same("half", widthsAt(yard, 0), "200 200 200 200 200 200 200 200 ");
        Check.same("five eighths", widthsAt(yard, 2), "250 250 250 250 250 250 250 250 ");
        Check.same("bilge", widthsAt(yard, 1), "400 400 400 400 400 400 400 400 ");
    }

    /** "go, one each, to those with the greatest rest, of like ones by places". */
    private static void likeRestsByPlaces() {
        Check.same("2 missing", widthsAt(fortiesWithEnds(201, 200), 0), "252 252 251 251 251 251 251 251 ");
        Check.same("4 missing", widthsAt(fortiesWithEnds(202, 200), 0), "253 253 253 253 252 252 252 252 ");
        Check.same("6 missing", widthsAt(fortiesWithEnds(203, 200), 0), "254 254 254 254 254 254 253 253 ");
        Check.same("2 missing below", widthsAt(fortiesWithEnds(200, 201), 2), "252 252 251 251 251 251 251 251 ");
        Check.same("6 missing below", widthsAt(fortiesWithEnds(200, 319), 2), "399 399 399 399 399 399 398 398 ");
        Check.same("all of them make the sum", fortiesWithEnds(203, 319).isSound(), true);
    }

    /** "to those with the greatest rest", wherever they stand, then by places. */
    private static void greatestRestsFirst() {
        Staveyard yard = tenOf(41, 41, 41, 41, 41, 41, 41, 43);
        yard.raise(330, 200, 201, 6);
        Check.same("the bung is the 43", yard.at(0, 0), 7);
        Check.same("43 gives 260.6, 41 gives 248.48: 4 missing, to the places 0 to 3", widthsAt(yard, 0), "261 249 249 249 248 248 248 248 ");
        Check.same("43 gives 261.9, 41 gives 249.72: 6 missing, to the places 0 to 5", widthsAt(yard, 2), "262 250 250 250 250 250 249 249 ");
        Staveyard other = tenOf(41, 41, 41, 41, 41, 41, 41, 43);
        other.raise(330, 203, 207, 6);
        Check.same("43 gives 264.51, 41 gives 252.21: 2 missing", widthsAt(other, 0), "265 253 252 252 252 252 252 252 ");
        Check.same("43 gives 269.72, 41 gives 257.18: 2 missing", widthsAt(other, 2), "270 258 257 257 257 257 257 257 ");
        Staveyard turned = tenOf(43, 43, 43, 43, 43, 43, 43, 41);
        turned.raise(342, 200, 204, 6);
        Check.same("43 gives 251.46, 41 gives 239.76: 4 missing, first to the place 4", widthsAt(turned, 0), "252 252 252 251 240 251 251 251 ");
        Check.same("43 gives 256.49, 41 gives 244.56: 4 missing, first to the place 4", widthsAt(turned, 2), "257 257 257 256 245 256 256 256 ");
    }

    /** "The jig makes each stave narrower there by its error, 0 to 3 tenths": at both ends, not at the bilge. */
    private static void errorAtTheEndsAlone() {
        for (int error = 0; error <= 3; error++) {
            Staveyard yard = Yards.forties(8);
            yard.setJig(error);
            yard.raise(320, 160, 200, 6);
            for (int place = 0; place < 8; place++) {
                Check.same("upper", yard.width(0, place, 0), 200 - error);
                Check.same("bilge", yard.width(0, place, 1), 400);
                Check.same("lower", yard.width(0, place, 2), 250 - error);
            }
            Check.same("closing above", yard.closing(0, 0), 8 * error);
            Check.same("closing at the bilge", yard.closing(0, 1), 0);
            Check.same("closing below", yard.closing(0, 2), 8 * error);
        }
    }

    /** "as the cask is raised, or as the stave comes in": a jig that is set later changes nothing. */
    private static void errorAsRaisedOrComeIn() {
        Staveyard yard = Yards.forties(10);
        yard.setJig(1);
        yard.raise(320, 160, 200, 6);
        yard.setJig(3);
        yard.bend(0, 60, 60);
        Check.same("as raised", widthsAt(yard, 0), "199 199 199 199 199 199 199 199 ");
        yard.replace(0, 2, 8);
        yard.setJig(0);
        Check.same("as come in", widthsAt(yard, 0), "199 199 197 199 199 199 199 199 ");
        yard.replace(0, 7, 9);
        Check.same("as come in with none", widthsAt(yard, 2), "249 249 247 249 249 249 249 250 ");
        Check.same("closing", yard.closing(0, 0), 6 + 3);
        Check.same("the first jig is forgotten", yard.setJig(2), 0);
    }

    /** "A joint is open, at an end, by the error of the stave ahead of it, at the bilge by 0". */
    private static void openByTheStaveAhead() {
        for (int place = 0; place < 8; place++) {
            Staveyard yard = Yards.forties(9);
            yard.raise(320, 160, 200, 6);
            yard.bend(0, 60, 60);
            yard.setJig(3);
            yard.replace(0, place, 8);
            for (int joint = 0; joint < 8; joint++) {
                Check.same("upper " + joint, yard.leaks(0, joint, 0), joint == place);
                Check.same("bilge " + joint, yard.leaks(0, joint, 1), false);
                Check.same("lower " + joint, yard.leaks(0, joint, 2), joint == place);
            }
        }
    }

    /** closing: "by how much the widths are less than the sum of a height". */
    private static void closingOfEachHeight() {
        Staveyard yard = Yards.seasoned();
        yard.setJig(3);
        yard.raise(2461, 2000, 1999, 9);
        Check.same("24 by 3", yard.closing(0, 0), 72);
        Check.same("at the bilge", yard.closing(0, 1), 0);
        Check.same("24 by 3 below", yard.closing(0, 2), 72);
    }
}
