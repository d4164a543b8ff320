/** Each 'Throws' line that names a state, at its edge; which of several exceptions comes first; events and tries that stay. */
final class RefusalsTest {
    public static void main(String[] args) {
        logs();
        split();
        leastSums();
        raise();
        bendAndToast();
        grooves();
        heads();
        fit();
        drive();
        findLeak();
        fillNotWhole();
        fillNotEmpty();
        keepAndTaste();
        pourAndStatement();
        replaceWrongStave();
        replaceWrongCask();
        figures();
        firstOfLogs();
        firstOfRaising();
        firstOfBending();
        firstOfHeads();
        firstOfHoops();
        firstOfContents();
        firstOfRepairs();
        Check.end();
    }

    private static Staveyard logsOf(int count) {
        Staveyard yard = new Staveyard();
        for (int log = 0; log < count; log++) {
            yard.addLog(0, 20, 6);
        }
        return yard;
    }

    /** "if there are 10"; "if the log was split". */
    private static void logs() {
        Twins.takes("addLog, the 10th", () -> logsOf(9), 9, yard -> yard.addLog(3, 60, 12));
        Twins.refuses("addLog, the 11th", () -> logsOf(10), Check.STATE, yard -> yard.addLog(3, 60, 12));
        Twins.takes("knot, not split", () -> logsOf(2), true, yard -> yard.knot(1, 0));
        Twins.refuses("knot, split", () -> splitOne(1), Check.UNSUPPORTED, yard -> yard.knot(1, 0));
        Twins.takes("knot, another is split", () -> splitOne(0), true, yard -> yard.knot(1, 0));
    }

    private static Staveyard splitOne(int log) {
        Staveyard yard = logsOf(2);
        yard.split(log);
        return yard;
    }

    /** 74 staves, and a log of 9 less the knots that are told. */
    private static Staveyard nearlyFull(int knots) {
        Staveyard yard = new Staveyard();
        yard.addLog(0, 60, 6);
        yard.addLog(0, 60, 6);
        yard.addLog(0, 24, 6);
        yard.split(0);
        yard.split(1);
        for (int cleft = 0; cleft < knots; cleft++) {
            yard.knot(2, cleft);
        }
        return yard;
    }

    /** "if it was split"; "if there would be more than 80 staves". */
    private static void split() {
        Twins.refuses("split twice", () -> splitOne(1), Check.UNSUPPORTED, yard -> yard.split(1));
        Twins.takes("split, another is split", () -> splitOne(1), 5, yard -> yard.split(0));
        Twins.takes("split, 80", () -> nearlyFull(3), 6, yard -> yard.split(2));
        Twins.refuses("split, 81", () -> nearlyFull(2), Check.STATE, yard -> yard.split(2));
        Twins.refuses("split, 83", () -> nearlyFull(0), Check.STATE, yard -> yard.split(2));
        Twins.refuses("split twice, and too many", () -> nearlyFull(0), Check.UNSUPPORTED, yard -> yard.split(1));
    }

    /** 40, 43, 46, 49, 52, 55, 58, 61 and 41, and as many more of 40 as are wanted. */
    private static Staveyard fortiesAndMore(int count) {
        Staveyard yard = new Staveyard();
        yard.addLog(1, 24, 6);
        yard.split(0);
        for (int log = 9; log < count; log++) {
            Yards.oneStave(yard, 0, 17, 6, 2);
        }
        Yards.dry(yard, 8, 78);
        return yard;
    }

    /** "if none can be chosen": too few, too little together, of another length; "if more than 14 staves could be". */
    private static void leastSums() {
        Twins.refuses("leastSum, 7 staves", () -> Yards.forties(7), Check.NO_ELEMENT, yard -> yard.leastSum(320, 6));
        Twins.takes("leastSum, 8 staves", () -> Yards.forties(8), 320, yard -> yard.leastSum(320, 6));
        Twins.refuses("leastSum, 1 more than all", () -> Yards.forties(8), Check.NO_ELEMENT, yard -> yard.leastSum(321, 6));
        Twins.refuses("leastSum, longer", () -> Yards.forties(8), Check.NO_ELEMENT, yard -> yard.leastSum(320, 7));
        Twins.refuses("leastSum, shorter", () -> Yards.forties(8), Check.NO_ELEMENT, yard -> yard.leastSum(320, 5));
        Twins.refuses("leastSum, of no yard", Staveyard::new, Check.NO_ELEMENT, yard -> yard.leastSum(320, 6));
        Twins.refuses("leastSumAnew, 7 staves", () -> Yards.forties(7), Check.NO_ELEMENT, yard -> yard.leastSumAnew(320, 6));
        Twins.takes("leastSumAnew, 8 staves", () -> Yards.forties(8), 320, yard -> yard.leastSumAnew(320, 6));
        Twins.refuses("leastSumAnew, 1 more than all", () -> Yards.forties(8), Check.NO_ELEMENT, yard -> yard.leastSumAnew(321, 6));
        Twins.refuses("leastSumAnew, longer", () -> Yards.forties(8), Check.NO_ELEMENT, yard -> yard.leastSumAnew(320, 7));
        Twins.takes("leastSumAnew, 14 staves", () -> fortiesAndMore(14), 324, yard -> yard.leastSumAnew(324, 6));
        Twins.refuses("leastSumAnew, 15 staves", () -> fortiesAndMore(15), Check.UNSUPPORTED, yard -> yard.leastSumAnew(324, 6));
        Twins.takes("leastSumAnew, 15 staves, one too moist", RefusalsTest::oneIsWet, 324, yard -> yard.leastSumAnew(324, 6));
    }

    /** The one on top has 251. */
    private static Staveyard oneIsWet() {
        Staveyard yard = fortiesAndMore(15);
        yard.month(0, 60);
        yard.month(0, 15);
        return yard;
    }

    /** "if none can be chosen"; "if the one with the highest number would keep less than 20". 12 casks can't be reached. */
    private static void raise() {
        Twins.refuses("raise, 7 staves", () -> Yards.forties(7), Check.NO_ELEMENT, yard -> yard.raise(320, 200, 200, 6));
        Twins.refuses("raise, 1 more than all", () -> Yards.forties(8), Check.NO_ELEMENT, yard -> yard.raise(321, 200, 200, 6));
        Twins.refuses("raise, longer", () -> Yards.forties(8), Check.NO_ELEMENT, yard -> yard.raise(320, 200, 200, 7));
        Twins.refuses("raise, shorter", () -> Yards.forties(8), Check.NO_ELEMENT, yard -> yard.raise(320, 200, 200, 5));
        Twins.refuses("raise, keeps 19", Yards::nine, Check.UNSUPPORTED, yard -> yard.raise(362, 200, 200, 6));
        Twins.takes("raise, keeps 20", Yards::nine, 0, yard -> yard.raise(363, 200, 200, 6));
        Twins.refuses("raise, keeps 19 of nine", Yards::nine, Check.UNSUPPORTED, yard -> yard.raise(423, 300, 300, 6));
        Twins.takes("raise, keeps 20 of nine", Yards::nine, 0, yard -> yard.raise(424, 300, 300, 6));
        Staveyard yard = Yards.tenCasks();
        Check.same("the 10th cask", yard.size(9), 8);
        Check.refuses("no staves for an 11th", yard, Check.NO_ELEMENT, () -> yard.raise(320, 200, 200, 6));
        Check.refuses("an 11th of no sum", yard, Check.ARGUMENT, () -> yard.raise(319, 200, 200, 6));
        Check.refuses("size of an 11th", yard, Check.INDEX, () -> yard.size(10));
        Check.same("sound", yard.isSound(), true);
    }

    /** "if it was bent"; "if the cask was not bent"; "if it is not empty". */
    private static void bendAndToast() {
        Twins.takes("bend, not bent", Yards::twoRaised, 0, yard -> yard.bend(1, 20, 20));
        Twins.refuses("bend twice", Yards::twoBent, Check.UNSUPPORTED, yard -> yard.bend(1, 20, 20));
        Twins.refuses("bend twice, without fire and steam", Yards::twoBent, Check.UNSUPPORTED, yard -> yard.bend(1, 0, 0));
        Twins.refuses("toast, not bent", Yards::twoRaised, Check.UNSUPPORTED, yard -> yard.toast(1, 200, 10));
        Twins.takes("toast, bent", Yards::twoBent, 0, yard -> yard.toast(1, 200, 10));
        Twins.refuses("toast, full", Yards::filled, Check.STATE, yard -> yard.toast(0, 200, 10));
        Twins.refuses("toast, 1 within", () -> holding(1), Check.STATE, yard -> yard.toast(0, 200, 10));
        Twins.takes("toast, empty again", () -> holding(0), 0, yard -> yard.toast(0, 200, 10));
        Twins.takes("shave, not bent", Yards::twoRaised, 0, yard -> yard.shave(1, 1));
        Twins.refuses("shave, full", Yards::filled, Check.STATE, yard -> yard.shave(0, 1));
        Twins.refuses("shave, 1 within", () -> holding(1), Check.STATE, yard -> yard.shave(0, 1));
        Twins.takes("shave, empty again", () -> holding(0), 0, yard -> yard.shave(0, 1));
    }

    /** A cask that was filled, and of which all but so much was poured out. */
    private static Staveyard holding(int left) {
        Staveyard yard = Yards.filled();
        yard.pour(0, 6421 - left);
        return yard;
    }

    /** "if the cask was not bent"; "if it is not empty, or there is one as deep or deeper". */
    private static void grooves() {
        Twins.refuses("groove, not bent", Yards::twoRaised, Check.UNSUPPORTED, yard -> yard.groove(1, 0, 3));
        Twins.takes("groove, bent", Yards::twoBent, 273, yard -> yard.groove(1, 0, 3));
        Twins.refuses("groove, full", Yards::filled, Check.STATE, yard -> yard.groove(0, 0, 8));
        Twins.refuses("groove, 1 within", () -> holding(1), Check.STATE, yard -> yard.groove(0, 0, 8));
        Twins.takes("groove, empty again", () -> holding(0), 283, yard -> yard.groove(0, 0, 8));
        for (int depth = 3; depth <= 8; depth++) {
            int there = depth;
            Twins.refuses("groove as deep as " + depth, () -> grooved(there), Check.STATE, yard -> yard.groove(0, 1, there));
            if (depth < 8) {
                Twins.takes("groove deeper than " + depth, () -> grooved(there), 266 + 2 * there, yard -> yard.groove(0, 1, there + 1));
            }
            if (depth > 3) {
                Twins.refuses("groove less deep than " + depth, () -> grooved(there), Check.STATE, yard -> yard.groove(0, 1, there - 1));
            }
        }
        Twins.takes("groove at the other end", () -> grooved(8), 273, yard -> yard.groove(0, 0, 3));
    }

    private static Staveyard grooved(int depth) {
        Staveyard yard = Yards.bent(0);
        yard.groove(0, 1, depth);
        return yard;
    }

    private static Staveyard headsOf(int count) {
        Staveyard yard = new Staveyard();
        for (int head = 0; head < count; head++) {
            yard.cutHead(100);
        }
        return yard;
    }

    /** "if there are 40". */
    private static void heads() {
        Twins.takes("cutHead, the 40th", () -> headsOf(39), 39, yard -> yard.cutHead(1000));
        Twins.refuses("cutHead, the 41st", () -> headsOf(40), Check.STATE, yard -> yard.cutHead(1000));
    }

    /** Both ends of the cask 0 are grooved, the upper one has the head 0; the heads 1 and 2 fit the lower one of 272. */
    private static Staveyard oneHead() {
        Staveyard yard = Yards.twoBent();
        yard.groove(0, 0, 4);
        yard.groove(0, 1, 4);
        yard.cutHead(275);
        yard.cutHead(272);
        yard.cutHead(275);
        yard.fit(0, 0, 0);
        return yard;
    }

    /** "if there is no groove, or it has a head, or the head is used". */
    private static void fit() {
        Twins.takes("fit", RefusalsTest::oneHead, true, yard -> yard.fit(0, 1, 1));
        Twins.takes("fit one that does not", RefusalsTest::oneHead, false, yard -> yard.fit(0, 1, 2));
        Twins.refuses("fit, no groove", RefusalsTest::oneHead, Check.UNSUPPORTED, yard -> yard.fit(1, 0, 1));
        Twins.refuses("fit, it has a head", RefusalsTest::oneHead, Check.UNSUPPORTED, yard -> yard.fit(0, 0, 2));
        Twins.refuses("fit, the head is used", RefusalsTest::oneHead, Check.UNSUPPORTED, yard -> yard.fit(0, 1, 0));
        Twins.refuses("fit its own head again", RefusalsTest::oneHead, Check.UNSUPPORTED, yard -> yard.fit(0, 0, 0));
        Twins.refuses("fit, not bent", RefusalsTest::oneHeadNotBent, Check.UNSUPPORTED, yard -> yard.fit(0, 0, 0));
        Twins.refuses("fit, a used one that was taken out", RefusalsTest::takenOut, Check.UNSUPPORTED, yard -> yard.fit(0, 0, 0));
    }

    private static Staveyard oneHeadNotBent() {
        Staveyard yard = Yards.twoRaised();
        yard.cutHead(267);
        return yard;
    }

    private static Staveyard takenOut() {
        Staveyard yard = oneHead();
        yard.groove(0, 0, 5);
        return yard;
    }

    /** "if the cask was not bent". */
    private static void drive() {
        Twins.refuses("drive, not bent", Yards::twoRaised, Check.UNSUPPORTED, yard -> yard.drive(1, 0, 1));
        Twins.takes("drive, bent", Yards::twoBent, 2, yard -> yard.drive(1, 0, 1));
        Twins.takes("drive, full", Yards::filled, 2, yard -> yard.drive(0, 0, 1));
    }

    /** "if none leaks"; "changes nothing, but tries are counted". */
    private static void findLeak() {
        Twins.takes("findLeak, one leaks", Yards::cracked, 0, yard -> yard.findLeak(0));
        Staveyard yard = Yards.whole();
        Check.refuses("findLeak, none leaks", yard, Check.NO_ELEMENT, () -> yard.findLeak(0));
        Check.same("its try", yard.tries(), 1);
        Check.refuses("findLeak, none leaks again", yard, Check.NO_ELEMENT, () -> yard.findLeak(0));
        Check.same("its tries", yard.tries(), 2);
        Staveyard twin = Yards.whole();
        twin.tryAir(0, 0, 9);
        twin.tryAir(0, 0, 9);
        Check.that("findLeak changed something", Inside.of(yard).equals(Inside.of(twin)));
    }

    /** "if it is not whole": not bent, a head missing at either end, a joint that leaks. */
    private static void fillNotWhole() {
        Twins.takes("fill, whole", Yards::whole, 6421, yard -> yard.fill(0));
        Twins.refuses("fill, not bent", () -> Yards.raised(0), Check.UNSUPPORTED, yard -> yard.fill(0));
        Twins.refuses("fill, no heads", () -> Yards.bent(0), Check.UNSUPPORTED, yard -> yard.fill(0));
        for (int end = 0; end < 2; end++) {
            int missing = end;
            Twins.refuses("fill, no head at " + end, () -> without(missing), Check.UNSUPPORTED, yard -> yard.fill(0));
        }
        Twins.refuses("fill, 1 joint leaks", () -> oneLeak(0), Check.UNSUPPORTED, yard -> yard.fill(0));
        Twins.takes("fill, it was driven", () -> oneLeak(10), 6421, yard -> yard.fill(0));
    }

    private static Staveyard without(int end) {
        Staveyard yard = Yards.whole();
        yard.groove(0, end, 8);
        return yard;
    }

    /** The joint 5 is open by 2 tenths, where 1 is let pass; hoops of 20 let 2 more pass. */
    private static Staveyard oneLeak(int blows) {
        Staveyard yard = Yards.whole();
        yard.setJig(2);
        yard.replace(0, 5, 35);
        for (int hoop = 0; hoop < 6 && blows > 0; hoop++) {
            yard.drive(0, hoop, blows);
        }
        return yard;
    }

    /** "or not empty". */
    private static void fillNotEmpty() {
        Twins.refuses("fill, full", Yards::filled, Check.UNSUPPORTED, yard -> yard.fill(0));
        Twins.refuses("fill, 1 poured", () -> holding(6420), Check.UNSUPPORTED, yard -> yard.fill(0));
        Twins.refuses("fill, 1 within", () -> holding(1), Check.UNSUPPORTED, yard -> yard.fill(0));
        Twins.takes("fill, empty again", () -> holding(0), 6421, yard -> yard.fill(0));
    }

    /** "if it is empty". */
    private static void keepAndTaste() {
        Twins.refuses("keep, never filled", Yards::whole, Check.UNSUPPORTED, yard -> yard.keep(0, 1, 0));
        Twins.refuses("keep, empty again", () -> holding(0), Check.UNSUPPORTED, yard -> yard.keep(0, 1, 0));
        Twins.takes("keep, 1 within", () -> holding(1), 0, yard -> yard.keep(0, 1, 0));
        Twins.refuses("taste, never filled", Yards::whole, Check.ARITHMETIC, yard -> yard.taste(0));
        Twins.refuses("taste, empty again", () -> holding(0), Check.ARITHMETIC, yard -> yard.taste(0));
        Twins.takes("taste, 1 within", () -> holding(1), 0, yard -> yard.taste(0));
    }

    /** "if there is less in the cask"; "if it is empty", which is the vat. */
    private static void pourAndStatement() {
        Twins.refuses("pour 1 of none", Yards::whole, Check.UNSUPPORTED, yard -> yard.pour(0, 1));
        Twins.refuses("pour 1 of an empty one", () -> holding(0), Check.UNSUPPORTED, yard -> yard.pour(0, 1));
        Twins.refuses("pour 2 of 1", () -> holding(1), Check.UNSUPPORTED, yard -> yard.pour(0, 2));
        Twins.takes("pour 1 of 1", () -> holding(1), 6421, yard -> yard.pour(0, 1));
        Twins.refuses("statement, new", Staveyard::new, Check.NO_ELEMENT, yard -> yard.statement());
        Twins.refuses("statement, nothing poured", Yards::filled, Check.NO_ELEMENT, yard -> yard.statement());
        Twins.takes("statement, 1 poured", () -> holding(6420), 0, yard -> yard.statement());
        Twins.refuses("statement, emptied", RefusalsTest::emptied, Check.NO_ELEMENT, yard -> yard.statement());
    }

    private static Staveyard emptied() {
        Staveyard yard = holding(0);
        yard.emptyVat();
        return yard;
    }

    /**
     * A cask of 41, 43, 46, 49, 52, 55, 58 and 61, of a length of 9. Staves of the stack: 9 to 11 of 47 and lengths
     * of 9, 10 and 8, then 12 of 46 and 13 of 48, both of a length of 9.
     */
    private static Staveyard toRepair() {
        Staveyard yard = new Staveyard();
        yard.addLog(3, 24, 9);
        yard.split(0);
        Yards.dry(yard, 8, 78);
        yard.raise(405, 300, 300, 9);
        yard.bend(0, 60, 60);
        Yards.oneStave(yard, 0, 13, 9, 7);
        Yards.oneStave(yard, 0, 13, 10, 7);
        Yards.oneStave(yard, 0, 13, 8, 7);
        Yards.oneStave(yard, 0, 17, 9, 4);
        Yards.oneStave(yard, 0, 15, 9, 6);
        return yard;
    }

    private static int placeOf(Staveyard yard, int width) {
        for (int place = 0; place < yard.size(0); place++) {
            if (yard.stave(yard.at(0, place), 'w') == width) {
                return place;
            }
        }
        return -1;
    }

    /** "if the stave is not in the stack, of another length, or narrower". */
    private static void replaceWrongStave() {
        Staveyard yard = toRepair();
        Check.same("the widths", yard.stave(9, 'w') + " " + yard.stave(12, 'w') + " " + yard.stave(13, 'w'), "47 46 48");
        Check.same("both are in the ring", placeOf(yard, 46) >= 0 && placeOf(yard, 49) >= 0, true);
        Twins.takes("replace, just as wide", RefusalsTest::toRepair, 7, one -> one.replace(0, placeOf(one, 46), 12));
        Twins.takes("replace, wider", RefusalsTest::toRepair, 7, one -> one.replace(0, placeOf(one, 46), 9));
        Twins.refuses("replace, narrower by 3", RefusalsTest::toRepair, Check.UNSUPPORTED, one -> one.replace(0, placeOf(one, 49), 12));
        Twins.refuses("replace, narrower by 1", RefusalsTest::toRepair, Check.UNSUPPORTED, one -> one.replace(0, placeOf(one, 49), 13));
        Twins.refuses("replace, longer", RefusalsTest::toRepair, Check.UNSUPPORTED, one -> one.replace(0, placeOf(one, 46), 10));
        Twins.refuses("replace, shorter", RefusalsTest::toRepair, Check.UNSUPPORTED, one -> one.replace(0, placeOf(one, 46), 11));
        Twins.refuses("replace by itself", RefusalsTest::toRepair, Check.UNSUPPORTED, one -> one.replace(0, 1, one.at(0, 1)));
        Twins.refuses("replace by its neighbour", RefusalsTest::toRepair, Check.UNSUPPORTED, one -> one.replace(0, 1, one.at(0, 0)));
        Twins.refuses("replace by one of another cask", Yards::twoBent, Check.UNSUPPORTED, one -> one.replace(0, placeOf(one, 72), one.at(1, 0)));
        Twins.refuses("replace by one thrown away", RefusalsTest::repaired, Check.UNSUPPORTED, one -> one.replace(0, placeOf(one, 46), 2));
    }

    /** The stave 2, of 46, was thrown away. */
    private static Staveyard repaired() {
        Staveyard yard = toRepair();
        yard.replace(0, placeOf(yard, 46), 12);
        return yard;
    }

    /** "if the cask is not empty, or was not bent". */
    private static void replaceWrongCask() {
        Twins.refuses("replace, not bent", () -> Yards.raised(0), Check.STATE, yard -> yard.replace(0, 5, 35));
        Twins.takes("replace, bent", () -> Yards.bent(0), 8, yard -> yard.replace(0, 5, 35));
        Twins.refuses("replace, full", Yards::filled, Check.STATE, yard -> yard.replace(0, 5, 35));
        Twins.refuses("replace, 1 within", () -> holding(1), Check.STATE, yard -> yard.replace(0, 5, 35));
        Twins.takes("replace, empty again", () -> holding(0), 8, yard -> yard.replace(0, 5, 35));
    }

    private static Staveyard allInCask() {
        Staveyard yard = Yards.forties(8);
        yard.raise(320, 200, 200, 6);
        return yard;
    }

    private static Staveyard oneLeft() {
        Staveyard yard = Yards.forties(9);
        yard.raise(320, 200, 200, 6);
        return yard;
    }

    private static Staveyard keptOnce() {
        Staveyard yard = Yards.filled();
        yard.keep(0, 1, 0);
        return yard;
    }

    /** "if the stack is empty"; "if no cask was ever kept". */
    private static void figures() {
        Twins.refuses("seasonedShare, new", Staveyard::new, Check.ARITHMETIC, yard -> yard.seasonedShare());
        Twins.refuses("seasonedShare, all in a cask", RefusalsTest::allInCask, Check.ARITHMETIC, yard -> yard.seasonedShare());
        Twins.takes("seasonedShare, one left", RefusalsTest::oneLeft, 1.0f, yard -> yard.seasonedShare());
        Twins.refuses("meanLoss, new", Staveyard::new, Check.ARITHMETIC, yard -> yard.meanLoss());
        Twins.refuses("meanLoss, filled and poured", () -> holding(1), Check.ARITHMETIC, yard -> yard.meanLoss());
        Twins.takes("meanLoss, kept once", RefusalsTest::keptOnce, 12.0, yard -> yard.meanLoss());
    }

    /** "If several exceptions apply, the one that is documented first is thrown": addLog, knot, split, stave. */
    private static void firstOfLogs() {
        Twins.refuses("addLog, out of range before 10", () -> logsOf(10), Check.ARGUMENT, yard -> yard.addLog(4, 20, 6));
        Twins.refuses("addLog, no radius before 10", () -> logsOf(10), Check.ARGUMENT, yard -> yard.addLog(0, 61, 6));
        Twins.refuses("addLog, no length before 10", () -> logsOf(10), Check.ARGUMENT, yard -> yard.addLog(0, 20, 13));
        Twins.refuses("knot, no log before no cleft", () -> logsOf(2), Check.INDEX, yard -> yard.knot(2, 8));
        Twins.refuses("knot, no cleft before split", () -> splitOne(1), Check.ARGUMENT, yard -> yard.knot(1, 8));
        Twins.refuses("split, split before too many", () -> nearlyFull(0), Check.UNSUPPORTED, yard -> yard.split(0));
        Twins.refuses("stave, no stave before no such thing", Yards::green, Check.INDEX, yard -> yard.stave(37, 'x'));
    }

    /** leastSum, leastSumAnew, raise, at, width, closing. */
    private static void firstOfRaising() {
        Twins.refuses("leastSum, out of range before none", Staveyard::new, Check.ARGUMENT, yard -> yard.leastSum(319, 6));
        Twins.refuses("leastSumAnew, out of range before none", Staveyard::new, Check.ARGUMENT, yard -> yard.leastSumAnew(3001, 6));
        Twins.refuses("leastSumAnew, out of range before 15", Yards::seasoned, Check.ARGUMENT, yard -> yard.leastSumAnew(319, 9));
        Twins.refuses("leastSumAnew, none before 15", Yards::seasoned, Check.NO_ELEMENT, yard -> yard.leastSumAnew(2462, 9));
        Twins.refuses("raise, out of range before none", Staveyard::new, Check.ARGUMENT, yard -> yard.raise(319, 200, 200, 6));
        Twins.refuses("raise, upper out of range before none", Staveyard::new, Check.ARGUMENT, yard -> yard.raise(320, 320, 200, 6));
        Twins.refuses("raise, lower out of range before none", Staveyard::new, Check.ARGUMENT, yard -> yard.raise(320, 200, 159, 6));
        Twins.refuses("raise, out of range before too narrow", Yards::nine, Check.ARGUMENT, yard -> yard.raise(362, 362, 200, 6));
        Twins.refuses("at, no cask before no place", Yards::twoRaised, Check.INDEX, yard -> yard.at(2, 9));
        Twins.refuses("width, no cask before no place", Yards::twoRaised, Check.INDEX, yard -> yard.width(2, 9, 0));
        Twins.refuses("width, no cask before no height", Yards::twoRaised, Check.INDEX, yard -> yard.width(2, 0, 3));
        Twins.refuses("width, no place before no height", Yards::twoRaised, Check.NO_ELEMENT, yard -> yard.width(0, 9, 3));
        Twins.refuses("closing, no cask before no height", Yards::twoRaised, Check.INDEX, yard -> yard.closing(2, 3));
    }

    /** bend, isCracked, toast, toastAt, shave. */
    private static void firstOfBending() {
        Twins.refuses("bend, no cask before out of range", Yards::twoBent, Check.INDEX, yard -> yard.bend(2, 61, 61));
        Twins.refuses("bend, no fire before bent", Yards::twoBent, Check.ARGUMENT, yard -> yard.bend(1, 61, 20));
        Twins.refuses("bend, no steam before bent", Yards::twoBent, Check.ARGUMENT, yard -> yard.bend(1, 20, -1));
        Twins.refuses("isCracked, no cask before no place", Yards::twoBent, Check.INDEX, yard -> yard.isCracked(2, 9));
        Twins.refuses("toast, no cask before out of range", Yards::twoRaised, Check.INDEX, yard -> yard.toast(2, 99, 0));
        Twins.refuses("toast, no heat before not bent", Yards::twoRaised, Check.ARGUMENT, yard -> yard.toast(1, 401, 10));
        Twins.refuses("toast, no minutes before not bent", Yards::twoRaised, Check.ARGUMENT, yard -> yard.toast(1, 200, 61));
        Twins.refuses("toast, no heat before full", Yards::filled, Check.ARGUMENT, yard -> yard.toast(0, 99, 10));
        Twins.refuses("toast, no minutes before full", Yards::filled, Check.ARGUMENT, yard -> yard.toast(0, 200, 0));
        Twins.refuses("toastAt, no cask before no place", Yards::twoBent, Check.INDEX, yard -> yard.toastAt(2, 9, 0));
        Twins.refuses("toastAt, no cask before no layer", Yards::twoBent, Check.INDEX, yard -> yard.toastAt(2, 0, 6));
        Twins.refuses("toastAt, no place before no layer", Yards::twoBent, Check.NO_ELEMENT, yard -> yard.toastAt(0, 9, 6));
        Twins.refuses("shave, no cask before out of range", Yards::filled, Check.INDEX, yard -> yard.shave(1, 4));
        Twins.refuses("shave, out of range before full", Yards::filled, Check.ARGUMENT, yard -> yard.shave(0, 4));
    }

    /** groove, cutHead, fit. */
    private static void firstOfHeads() {
        Twins.refuses("groove, no cask before no end", Yards::twoRaised, Check.INDEX, yard -> yard.groove(2, 2, 2));
        Twins.refuses("groove, no end before not bent", Yards::twoRaised, Check.ARGUMENT, yard -> yard.groove(1, 2, 3));
        Twins.refuses("groove, no depth before not bent", Yards::twoRaised, Check.ARGUMENT, yard -> yard.groove(1, 0, 9));
        Twins.refuses("groove, no end before full", Yards::filled, Check.ARGUMENT, yard -> yard.groove(0, -1, 8));
        Twins.refuses("groove, no depth before as deep", () -> grooved(3), Check.ARGUMENT, yard -> yard.groove(0, 1, 2));
        Twins.refuses("cutHead, out of range before 40", () -> headsOf(40), Check.ARGUMENT, yard -> yard.cutHead(1001));
        Twins.refuses("fit, no cask before no end", RefusalsTest::oneHead, Check.INDEX, yard -> yard.fit(2, 2, 3));
        Twins.refuses("fit, no end before a used head", RefusalsTest::oneHead, Check.ARGUMENT, yard -> yard.fit(0, 2, 0));
        Twins.refuses("fit, no head before no groove", RefusalsTest::oneHead, Check.ARGUMENT, yard -> yard.fit(1, 0, 3));
        Twins.refuses("fit, no head before it has one", RefusalsTest::oneHead, Check.ARGUMENT, yard -> yard.fit(0, 0, 3));
    }

    /** drive, tightness, leaks, tryAir. */
    private static void firstOfHoops() {
        Twins.refuses("drive, no cask before no hoop", Yards::twoRaised, Check.INDEX, yard -> yard.drive(2, 6, 1));
        Twins.refuses("drive, no hoop before not bent", Yards::twoRaised, Check.ARGUMENT, yard -> yard.drive(1, 6, 1));
        Twins.refuses("drive, no blows before not bent", Yards::twoRaised, Check.ARGUMENT, yard -> yard.drive(1, 0, 0));
        Twins.refuses("tightness, no cask before no hoop", Yards::twoRaised, Check.INDEX, yard -> yard.tightness(2, 6));
        Twins.refuses("leaks, no cask before no place", Yards::twoRaised, Check.INDEX, yard -> yard.leaks(2, 9, 0));
        Twins.refuses("leaks, no cask before no height", Yards::twoRaised, Check.INDEX, yard -> yard.leaks(2, 0, 3));
        Twins.refuses("leaks, no place before no height", Yards::twoRaised, Check.NO_ELEMENT, yard -> yard.leaks(0, 9, 3));
        Twins.refuses("tryAir, no cask before no range", Yards::twoRaised, Check.INDEX, yard -> yard.tryAir(2, 3, 3));
        Twins.refuses("findLeak, no cask is no try", Yards::twoRaised, Check.INDEX, yard -> yard.findLeak(2));
    }

    /** contentBy, keep, within, pour. */
    private static void firstOfContents() {
        Twins.refuses("contentBy, no cask before no land", Yards::twoRaised, Check.INDEX, yard -> yard.contentBy(2, 'x'));
        Twins.refuses("keep, no cask before out of range", Yards::twoWhole, Check.INDEX, yard -> yard.keep(2, 0, 5));
        Twins.refuses("keep, no months before empty", Yards::twoWhole, Check.ARGUMENT, yard -> yard.keep(1, 121, 0));
        Twins.refuses("keep, no floor before empty", Yards::twoWhole, Check.ARGUMENT, yard -> yard.keep(1, 1, 5));
        Twins.refuses("within, no cask before no such thing", Yards::twoWhole, Check.INDEX, yard -> yard.within(2, 'x'));
        Twins.refuses("pour, no cask before nothing", Yards::twoWhole, Check.INDEX, yard -> yard.pour(2, 0));
        Twins.refuses("pour, nothing before less", Yards::twoWhole, Check.ARGUMENT, yard -> yard.pour(1, 0));
    }

    /** replace, event; the stave 30 is narrower than the one in the place 5. */
    private static void firstOfRepairs() {
        Twins.refuses("replace, no cask before no place", Yards::twoRaised, Check.INDEX, yard -> yard.replace(2, 9, 30));
        Twins.refuses("replace, no stave before no place", Yards::twoRaised, Check.INDEX, yard -> yard.replace(1, 9, 37));
        Twins.refuses("replace, no stave before full", Yards::filled, Check.INDEX, yard -> yard.replace(0, 5, 37));
        Twins.refuses("replace, no place before narrower", Yards::twoRaised, Check.NO_ELEMENT, yard -> yard.replace(0, 9, 30));
        Twins.refuses("replace, no place before full", Yards::filled, Check.NO_ELEMENT, yard -> yard.replace(0, 9, 35));
        Twins.refuses("replace, narrower before not bent", () -> Yards.raised(0), Check.UNSUPPORTED, yard -> yard.replace(0, 5, 30));
        Twins.refuses("replace, narrower before full", Yards::filled, Check.UNSUPPORTED, yard -> yard.replace(0, 5, 30));
        Twins.refuses("replace, in a cask before full", Yards::filled, Check.UNSUPPORTED, yard -> yard.replace(0, 5, yard.at(0, 5)));
        Twins.refuses("event, no cask before none", Yards::twoRaised, Check.INDEX, yard -> yard.event(2, 99));
    }
}
