/** Promises 12 to 19: setJig, leastSum, leastSumAnew, raise, size, at, width, closing. ChooserTest says more of choosing. */
final class RaisingTest {
    public static void main(String[] args) {
        setJig();
        leastSum();
        leastSumAnew();
        leastSumOfSeasonedOnly();
        raise();
        raiseCuts();
        raiseRefuses();
        ring();
        dueWidths();
        dueWidthsOfLikeOnes();
        closing();
        placesRefused();
        Check.end();
    }

    private static void setJig() {
        Staveyard yard = new Staveyard();
        Check.same("at first", yard.setJig(3), 0);
        Check.same("before", yard.setJig(1), 3);
        Check.refuses("error 4", yard, Check.ARGUMENT, () -> yard.setJig(4));
        Check.refuses("error -1", yard, Check.ARGUMENT, () -> yard.setJig(-1));
        Check.same("a refused error changes nothing", yard.setJig(0), 1);
    }

    private static void leastSum() {
        Staveyard yard = Yards.nine();
        int[][] dues = {{320, 384}, {384, 384}, {385, 387}, {404, 404}, {405, 405}, {406, 445}, {445, 445}};
        for (int[] due : dues) {
            Check.same("leastSum " + due[0], yard.leastSum(due[0], 6), due[1]);
            Check.same("leastSumAnew " + due[0], yard.leastSumAnew(due[0], 6), due[1]);
        }
        Check.refuses("more than all", yard, Check.NO_ELEMENT, () -> yard.leastSum(446, 6));
        Check.refuses("of another length", yard, Check.NO_ELEMENT, () -> yard.leastSum(400, 7));
        Check.refuses("of no length", yard, Check.NO_ELEMENT, () -> yard.leastSum(400, Integer.MIN_VALUE));
        Check.refuses("3000", yard, Check.NO_ELEMENT, () -> yard.leastSum(3000, 6));
        for (int sum : new int[] {319, 3001, -1, Integer.MIN_VALUE, Integer.MAX_VALUE}) {
            Check.refuses("leastSum " + sum, yard, Check.ARGUMENT, () -> yard.leastSum(sum, 6));
            Check.refuses("leastSumAnew " + sum, yard, Check.ARGUMENT, () -> yard.leastSumAnew(sum, 6));
        }
        Staveyard many = Yards.seasoned();
        Check.same("of 37", many.leastSum(1000, 9), 1000);
        Check.same("the 24 widest", many.leastSum(2461, 9), 2461);
        Check.refuses("25 would be too many", many, Check.NO_ELEMENT, () -> many.leastSum(2462, 9));
    }

    private static void leastSumAnew() {
        Staveyard yard = Yards.seasoned();
        Check.refuses("of 37", yard, Check.UNSUPPORTED, () -> yard.leastSumAnew(1000, 9));
        Check.refuses("of 37, where none can be chosen", yard, Check.NO_ELEMENT, () -> yard.leastSumAnew(2462, 9));
        Check.refuses("of none", yard, Check.NO_ELEMENT, () -> yard.leastSumAnew(1000, 8));
        for (int more = 5; more <= 6; more++) {
            Staveyard some = new Staveyard();
            some.addLog(1, 24, 6);
            some.split(0);
            for (int log = 0; log < more; log++) {
                Yards.oneCleft(some, 0, 20, 6, 7);
            }
            Yards.dry(some, 8, 78);
            Check.same("leastSum of " + some.staves(), some.leastSum(390, 6), 390);
            if (more == 5) {
                Check.same("14 are few enough", some.leastSumAnew(390, 6), 390);
            } else {
                Check.refuses("15 are not", some, Check.UNSUPPORTED, () -> some.leastSumAnew(390, 6));
            }
        }
    }

    private static void leastSumOfSeasonedOnly() {
        Staveyard yard = new Staveyard();
        yard.addLog(1, 24, 6);
        yard.split(0);
        Yards.dry(yard, 6, 80);
        yard.month(69, 0);
        Check.refuses("at 251", yard, Check.NO_ELEMENT, () -> yard.leastSum(384, 6));
        yard.month(1, 0);
        Check.same("at 250", yard.leastSum(384, 6), 384);
        yard.month(0, 1);
        Check.same("without the wet one on top", yard.leastSum(384, 6), 404);
        yard.raise(404, 300, 300, 6);
        Check.refuses("too few are left", yard, Check.NO_ELEMENT, () -> yard.leastSum(320, 6));
        Check.refuses("those of a cask are not chosen", yard, Check.NO_ELEMENT, () -> yard.raise(320, 300, 300, 6));
    }

    private static void raise() {
        Staveyard yard = Yards.seasoned();
        Check.same("raise", yard.raise(1000, 840, 830, 9), 0);
        Check.same("size", yard.size(0), 9);
        int[] ring = {32, 27, 17, 0, 1, 2, 5, 4, 22};
        for (int place = 0; place < ring.length; place++) {
            Check.same("place " + place, yard.at(0, place), ring[place]);
            Check.same("where " + ring[place], yard.isWhere(ring[place]), 'c');
        }
        Check.same("a second one", yard.raise(800, 700, 700, 9), 1);
        Check.same("staves are in one cask", yard.stacked(), 37 - 9 - yard.size(1));
        Check.same("sound", yard.isSound(), true);
        Check.same("widths", yard.widths(), 3195L - (sumOf(yard) - 800));
    }

    private static int sumOf(Staveyard yard) {
        Staveyard again = Yards.raised(0);
        return again.leastSum(800, 9);
    }

    private static void raiseCuts() {
        Staveyard yard = Yards.nine();
        Check.refuses("the last would keep 19", yard, Check.UNSUPPORTED, () -> yard.raise(362, 300, 300, 6));
        Check.refuses("the last would keep less than nothing", yard, Check.UNSUPPORTED, () -> yard.raise(320, 300, 300, 6));
        Check.refuses("of nine, it would keep 19", yard, Check.UNSUPPORTED, () -> yard.raise(423, 300, 300, 6));
        Check.same("it keeps 20", yard.raise(363, 200, 200, 6), 0);
        Check.same("its width", yard.stave(8, 'w'), 20);
        Check.same("others are not cut", yard.stave(6, 'w'), 58);
        Check.same("one is left", yard.inStack(0), 7);
        Check.same("widths", yard.widths(), 424L);
        Staveyard all = Yards.nine();
        all.raise(424, 300, 300, 6);
        Check.same("nine of them", all.size(0), 9);
        Check.same("the last of nine keeps 20", all.stave(8, 'w'), 20);
        Staveyard exact = Yards.nine();
        exact.raise(405, 300, 300, 6);
        Check.same("nothing to cut", exact.stave(8, 'w'), 41);
        Check.same("the narrowest is left", exact.inStack(0), 0);
    }

    private static void raiseRefuses() {
        Staveyard yard = Yards.nine();
        int[][] wrong = {{319, 300, 300}, {3001, 2000, 2000}, {384, 191, 300}, {384, 300, 191}, {384, 384, 300}, {384, 300, 384},
            {385, 192, 300}, {385, 300, 192}, {384, Integer.MIN_VALUE, 300}, {384, 300, Integer.MAX_VALUE},
            {384, Integer.MIN_VALUE + 300, 300}, {Integer.MAX_VALUE, 300, 300}, {0, 0, 0}};
        for (int[] sums : wrong) {
            Check.refuses("raise " + sums[0] + " " + sums[1] + " " + sums[2], yard, Check.ARGUMENT,
                () -> yard.raise(sums[0], sums[1], sums[2], 6));
            Check.refuses("raise none " + sums[0] + " " + sums[1] + " " + sums[2], yard, Check.ARGUMENT,
                () -> yard.raise(sums[0], sums[1], sums[2], 7));
        }
        Check.refuses("of another length", yard, Check.NO_ELEMENT, () -> yard.raise(384, 300, 300, 7));
        Check.refuses("of a length that no log has", yard, Check.NO_ELEMENT, () -> yard.raise(384, 300, 300, -5));
        Check.refuses("more than all", yard, Check.NO_ELEMENT, () -> yard.raise(446, 300, 300, 6));
        Check.same("half, and one less", yard.raise(384, 192, 383, 6), 0);
        Staveyard odd = Yards.nine();
        Check.same("more than half of an odd sum", odd.raise(385, 193, 193, 6), 0);
    }

    private static void ring() {
        Staveyard yard = Yards.nine();
        yard.raise(363, 200, 204, 6);
        int[] ring = {6, 5, 3, 1, 8, 0, 2, 4};
        Check.same("size", yard.size(0), 8);
        for (int place = 0; place < 8; place++) {
            Check.same("by widths as they are cut, " + place, yard.at(0, place), ring[place]);
        }
        Staveyard like = Yards.alike();
        like.raise(352, 200, 201, 9);
        int[] likeRing = {0, 1, 3, 5, 7, 6, 4, 2};
        for (int place = 0; place < 8; place++) {
            Check.same("of like ones by numbers, " + place, like.at(0, place), likeRing[place]);
        }
    }

    private static void dueWidths() {
        Staveyard yard = Yards.nine();
        yard.raise(363, 200, 204, 6);
        int[] upper = {320, 303, 270, 237, 110, 220, 253, 287};
        int[] bilge = {580, 550, 490, 430, 200, 400, 460, 520};
        for (int place = 0; place < 8; place++) {
            Check.same("upper " + place, yard.width(0, place, 0), upper[place]);
            Check.same("bilge " + place, yard.width(0, place, 1), bilge[place]);
        }
        Staveyard narrow = Yards.nine();
        narrow.setJig(3);
        narrow.raise(363, 200, 204, 6);
        narrow.setJig(0);
        for (int place = 0; place < 8; place++) {
            Check.same("upper with an error " + place, narrow.width(0, place, 0), upper[place] - 3);
            Check.same("bilge without " + place, narrow.width(0, place, 1), bilge[place]);
            Check.same("lower with an error " + place, narrow.width(0, place, 2), yard.width(0, place, 2) - 3);
        }
    }

    private static void dueWidthsOfLikeOnes() {
        Staveyard yard = Yards.alike();
        yard.raise(352, 200, 201, 9);
        for (int place = 0; place < 8; place++) {
            Check.same("upper " + place, yard.width(0, place, 0), 250);
            Check.same("lower " + place, yard.width(0, place, 2), place < 2 ? 252 : 251);
        }
    }

    private static void closing() {
        Staveyard yard = Yards.raised(0);
        for (int height = 0; height < 3; height++) {
            Check.same("closes at " + height, yard.closing(0, height), 0);
        }
        Staveyard open = Yards.raised(2);
        Check.same("open above", open.closing(0, 0), 18);
        Check.same("closed at the bilge", open.closing(0, 1), 0);
        Check.same("open below", open.closing(0, 2), 18);
        open.bend(0, 20, 20);
        open.setJig(3);
        open.replace(0, 5, 35);
        Check.same("with the error of the one that came in", open.closing(0, 0), 19);
        Check.same("its width", open.width(0, 5, 0), yardWidth() - 3);
        Check.same("its width at the bilge", open.width(0, 5, 1), 720);
        Check.refuses("height 3", open, Check.ARGUMENT, () -> open.closing(0, 3));
        Check.refuses("height -1", open, Check.ARGUMENT, () -> open.closing(0, -1));
        Check.refuses("cask 1", open, Check.INDEX, () -> open.closing(1, 3));
    }

    private static int yardWidth() {
        return Yards.raised(0).width(0, 5, 0);
    }

    private static void placesRefused() {
        Staveyard yard = Yards.raised(0);
        Check.refuses("size of cask 1", yard, Check.INDEX, () -> yard.size(1));
        Check.refuses("size of cask -1", yard, Check.INDEX, () -> yard.size(-1));
        Check.refuses("at of cask 1", yard, Check.INDEX, () -> yard.at(1, 99));
        Check.refuses("place 9", yard, Check.NO_ELEMENT, () -> yard.at(0, 9));
        Check.refuses("place -1", yard, Check.NO_ELEMENT, () -> yard.at(0, -1));
        Check.refuses("width of cask 1", yard, Check.INDEX, () -> yard.width(1, 99, 9));
        Check.refuses("width at place 9", yard, Check.NO_ELEMENT, () -> yard.width(0, 9, 9));
        Check.refuses("width at place -1", yard, Check.NO_ELEMENT, () -> yard.width(0, -1, 0));
        Check.refuses("width at height 3", yard, Check.ARGUMENT, () -> yard.width(0, 8, 3));
        Check.refuses("width at height -1", yard, Check.ARGUMENT, () -> yard.width(0, 8, -1));
    }
}
