/** The edges of repairs, events and figures, sentence by sentence. */
final class EdgesOfRepairsTest {
    public static void main(String[] args) {
        seasonedOrNot();
        atLeastAsWideAndCut();
        cutToOneOfTwenty();
        bentByItself();
        thrownAway();
        originalsDownToNone();
        eventsAtRaising();
        twentyEventsAtMost();
        olderOnesAreForgotten();
        eventsOfEachKind();
        whatIsNoEvent();
        woodsAsBits();
        widthsOfAllThatAreLeft();
        seasonedShareAtTheEdge();
        seasonedShareIsAFloat();
        meanLossOfAllCasks();
        soundThroughout();
        Check.end();
    }

    /** A cask of eight staves of 40, bent, and one more stave of 40 that has this moisture. */
    private static Staveyard withOne(int moisture) {
        Staveyard yard = Yards.forties(8);
        yard.raise(320, 200, 200, 6);
        yard.bend(0, 60, 60);
        Yards.oneStave(yard, 2, 17, 6, 2);
        if (moisture > 800) {
            yard.month(0, 60);
            yard.month(0, moisture - 860);
        }
        for (int left = 800 - moisture; left > 0; left -= 80) {
            yard.month(Math.min(80, left), 0);
        }
        Check.same("the moisture", yard.stave(8, 'm'), moisture);
        return yard;
    }

    /** "seasoned or not": what it has, it keeps. */
    private static void seasonedOrNot() {
        for (int moisture : new int[] {100, 250, 251, 800, 900}) {
            Staveyard yard = withOne(moisture);
            Check.same("at " + moisture, yard.replace(0, 3, 8), 7);
            Check.same("it keeps it", yard.stave(8, 'm'), moisture);
            Check.same("and its tannin", yard.stave(8, 't') >= 380, true);
        }
    }

    /** Staves of 51, 49, 48, 46, 45 and less, green, beside a cask of eight staves of 47. */
    private static Staveyard besideOneOf47() {
        Staveyard yard = new Staveyard();
        for (int log = 0; log < 8; log++) {
            Yards.oneStave(yard, 3, 13, 9, 7);
        }
        Yards.dry(yard, 8, 78);
        yard.raise(376, 300, 300, 9);
        yard.bend(0, 60, 60);
        yard.addLog(1, 19, 9);
        yard.addLog(1, 18, 9);
        yard.split(8);
        yard.split(9);
        return yard;
    }

    private static int ofWidth(Staveyard yard, int width) {
        for (int stave = 8; stave < yard.staves(); stave++) {
            if (yard.stave(stave, 'w') == width && yard.isWhere(stave) == 's') {
                return stave;
            }
        }
        return -1;
    }

    /** "at least as wide, and cut to that width": 48 is, 46 is not; the widths at all heights stay. */
    private static void atLeastAsWideAndCut() {
        for (int width : new int[] {48, 51, 49}) {
            Staveyard yard = besideOneOf47();
            int stave = ofWidth(yard, width);
            int before = yard.width(0, 3, 0);
            Check.same("a stave of " + width, yard.replace(0, 3, stave), 7);
            Check.same("cut", yard.stave(stave, 'w'), 47);
            Check.same("upper", yard.width(0, 3, 0), before);
            Check.same("bilge", yard.width(0, 3, 1), 470);
        }
        Twins.refuses("46", EdgesOfRepairsTest::besideOneOf47, Check.UNSUPPORTED, yard -> yard.replace(0, 3, ofWidth(yard, 46)));
        Twins.refuses("45", EdgesOfRepairsTest::besideOneOf47, Check.UNSUPPORTED, yard -> yard.replace(0, 3, ofWidth(yard, 45)));
        Staveyard same = withOne(200);
        Check.same("just as wide", same.replace(0, 0, 8), 7);
        Check.same("not cut", same.stave(8, 'w'), 40);
    }

    /** The one that was cut to 20 as the cask was raised is 20 wide. */
    private static void cutToOneOfTwenty() {
        Staveyard yard = Yards.nine();
        yard.raise(363, 200, 204, 6);
        yard.bend(0, 60, 60);
        Check.same("of 20", yard.stave(yard.at(0, 4), 'w'), 20);
        Check.same("by one of 61", yard.replace(0, 4, 7), 7);
        Check.same("cut to 20", yard.stave(7, 'w'), 20);
        Check.same("upper", yard.width(0, 4, 0), 110);
        Check.same("sound", yard.isSound(), true);
    }

    /** "it is bent by itself, and not cracked": also where the one ahead was. */
    private static void bentByItself() {
        Staveyard yard = Yards.cracked();
        yard.toast(0, 150, 40);
        Check.same("cracked", yard.isCracked(0, 0), true);
        yard.replace(0, 0, 8);
        Check.same("not cracked", yard.isCracked(0, 0), false);
        Check.same("neither wetter nor drier", yard.stave(8, 'm'), 176);
        Check.same("not toasted", yard.toastAt(0, 0, 0), 0);
        Check.same("the others are", yard.toastAt(0, 1, 0), 40);
        Check.refuses("bent is bent", yard, Check.UNSUPPORTED, () -> yard.bend(0, 60, 60));
        Check.same("toasted with them", yard.toast(0, 150, 1), 7);
        Check.same("once", yard.toastAt(0, 0, 0), 1);
    }

    /** "which is thrown away": it is in neither place, and can't come back. */
    private static void thrownAway() {
        Staveyard yard = Yards.forties(10);
        yard.raise(320, 200, 200, 6);
        yard.bend(0, 60, 60);
        int old = yard.at(0, 4);
        yard.replace(0, 4, 8);
        Check.same("thrown away", yard.isWhere(old), 'x');
        Check.same("in the cask", yard.isWhere(8), 'c');
        Check.same("in its place", yard.at(0, 4), 8);
        Check.same("one is stacked", yard.stacked(), 1);
        Check.same("the other one", yard.inStack(0), 9);
        Check.refuses("it can't come back", yard, Check.UNSUPPORTED, () -> yard.replace(0, 4, old));
        Check.same("it is known still", yard.stave(old, 'w'), 40);
        Check.same("staves that ever were", yard.staves(), 10);
        Check.same("the other comes in", yard.replace(0, 4, 9), 7);
        Check.same("the one that came in is thrown away, too", yard.isWhere(8), 'x');
        Check.same("none is stacked", yard.stacked(), 0);
    }

    /** "how many staves the cask still has with which it was raised": from all down to none. */
    private static void originalsDownToNone() {
        Staveyard yard = Yards.forties(8);
        yard.raise(320, 200, 200, 6);
        yard.bend(0, 60, 60);
        yard.addLog(0, 60, 6);
        yard.split(8);
        Check.same("all", yard.originals(0), 8);
        for (int place = 0; place < 8; place++) {
            Check.same("one less", yard.replace(0, place, 8 + place), 7 - place);
            Check.same("so many", yard.originals(0), 7 - place);
        }
        Check.same("no less than none", yard.replace(0, 3, 20), 0);
        Check.same("sound", yard.isSound(), true);
    }

    private static void eventsAtRaising() {
        Staveyard yard = Yards.twoRaised();
        for (int cask = 0; cask < 2; cask++) {
            int its = cask;
            Check.same("raised", yard.events(cask), 1);
            Check.same("the latest", yard.event(cask, 0), 'r');
            Check.refuses("none ahead of it", yard, Check.NO_ELEMENT, () -> yard.event(its, 1));
        }
        yard.bend(1, 20, 20);
        Check.same("each its own", Picture.events(yard, 0) + " " + Picture.events(yard, 1), "r rb");
    }

    private static Staveyard withEvents(int count) {
        Staveyard yard = Yards.bent(0);
        for (int event = 2; event < count; event++) {
            yard.shave(0, 1);
        }
        return yard;
    }

    /** "20 at most": 19, 20 and 21 of them. */
    private static void twentyEventsAtMost() {
        int[][] dues = {{2, 2}, {19, 19}, {20, 20}, {21, 20}, {22, 20}, {45, 20}};
        for (int[] due : dues) {
            Staveyard yard = withEvents(due[0]);
            Check.same("after " + due[0], yard.events(0), due[1]);
            Check.same("the earliest of " + due[0], yard.event(0, due[1] - 1), due[0] <= 20 ? 'r' : due[0] == 21 ? 'b' : 's');
            Check.refuses("none further back", yard, Check.NO_ELEMENT, () -> yard.event(0, due[1]));
        }
    }

    /** "as older ones are forgotten": the order of the others stays. */
    private static void olderOnesAreForgotten() {
        Staveyard yard = withEvents(18);
        yard.toast(0, 150, 1);
        yard.groove(0, 0, 3);
        Check.same("20", Picture.events(yard, 0), "rbsssssssssssssssstg");
        yard.replace(0, 5, 35);
        Check.same("without r", Picture.events(yard, 0), "bsssssssssssssssstgx");
        yard.groove(0, 0, 4);
        Check.same("without b", Picture.events(yard, 0), "sssssssssssssssstgxg");
        Check.same("the latest", yard.event(0, 0), 'g');
        Check.same("the one ahead", yard.event(0, 1), 'x');
        Check.same("the earliest", yard.event(0, 19), 's');
        for (int shave = 0; shave < 16; shave++) {
            yard.shave(0, 1);
        }
        Check.same("wrapped", Picture.events(yard, 0), "tgxgssssssssssssssss");
        for (int shave = 0; shave < 4; shave++) {
            yard.shave(0, 1);
        }
        Check.same("all are new", Picture.events(yard, 0), "ssssssssssssssssssss");
    }

    /** 'r' raised, 'b' bent, 't' toasted, 's' shaved, 'g' a groove, 'h' a head that fits, 'f' filled, 'e' empty, 'x' replaced. */
    private static void eventsOfEachKind() {
        Staveyard yard = Yards.raised(0);
        yard.shave(0, 1);
        Check.same("shaved", yard.event(0, 0), 's');
        yard.bend(0, 20, 20);
        Check.same("bent", yard.event(0, 0), 'b');
        yard.toast(0, 100, 1);
        Check.same("toasted", yard.event(0, 0), 't');
        yard.replace(0, 5, 35);
        Check.same("replaced", yard.event(0, 0), 'x');
        yard.groove(0, 1, 3);
        Check.same("a groove", yard.event(0, 0), 'g');
        yard.fit(0, 1, yard.cutHead(270));
        Check.same("a head", yard.event(0, 0), 'h');
        Yards.head(yard, 0, 0, 3);
        yard.fill(0);
        Check.same("filled", yard.event(0, 0), 'f');
        yard.pour(0, 6421);
        Check.same("poured empty", yard.event(0, 0), 'e');
        yard.fill(0);
        yard.pour(0, 6420);
        Check.same("not empty", yard.event(0, 0), 'f');
        yard.keep(0, 1, 0);
        Check.same("lost empty", yard.event(0, 0), 'e');
        Check.same("all of them", Picture.events(yard, 0), "rsbtxghghfefe");
    }

    /** Driving, keeping, pouring a part, trying, a month, a head that does not fit, and what is refused. */
    private static void whatIsNoEvent() {
        Staveyard yard = Yards.filled();
        String before = Picture.events(yard, 0);
        yard.drive(0, 0, 5);
        yard.keep(0, 10, 0);
        yard.pour(0, 100);
        yard.tryAir(0, 0, 9);
        yard.month(80, 60);
        yard.setJig(2);
        yard.cutHead(100);
        yard.isSound();
        Check.refuses("toast", yard, Check.STATE, () -> yard.toast(0, 200, 10));
        Check.refuses("fill", yard, Check.UNSUPPORTED, () -> yard.fill(0));
        Check.refuses("bend", yard, Check.UNSUPPORTED, () -> yard.bend(0, 20, 20));
        Check.refuses("pour", yard, Check.UNSUPPORTED, () -> yard.pour(0, 6421));
        Check.same("no event", Picture.events(yard, 0), before);
    }

    /** "of which regions a cask has staves": all four, then one after another less. */
    private static void woodsAsBits() {
        Staveyard yard = new Staveyard();
        for (int log = 0; log < 8; log++) {
            Yards.oneStave(yard, log < 4 ? log : 3, 16, 9, 4);
        }
        Yards.dry(yard, 8, 78);
        yard.raise(352, 200, 200, 9);
        yard.bend(0, 60, 60);
        yard.addLog(3, 60, 9);
        yard.split(8);
        int[] places = {0, 1, 7};
        int[] dues = {14, 12, 8};
        Check.same("all", yard.woods(0), 15);
        for (int region = 0; region < 3; region++) {
            Check.same("the stave", yard.stave(yard.at(0, places[region]), 'r'), region);
            yard.replace(0, places[region], 8 + region);
            Check.same("without region " + region, yard.woods(0), dues[region]);
        }
        yard.replace(0, 2, 20);
        Check.same("3 for 3", yard.woods(0), 8);
    }

    /** widths: "of all staves that are not thrown away", as they are cut. */
    private static void widthsOfAllThatAreLeft() {
        Staveyard yard = Yards.nine();
        Check.same("in the stack", yard.widths(), 445L);
        yard.raise(363, 200, 204, 6);
        Check.same("21 cut off", yard.widths(), 424L);
        yard.bend(0, 60, 60);
        Check.refuses("narrower", yard, Check.UNSUPPORTED, () -> yard.replace(0, 0, yard.at(0, 4)));
        yard.replace(0, 0, 7);
        Check.same("58 thrown away, 61 cut to 58", yard.widths(), 363L);
        Check.same("80 staves", Yards.widest().widths(), 10L * (133 + 113 + 93 + 73 + 53) + 6L * (130 + 110 + 90 + 70 + 50));
    }

    /** seasonedShare: 250 is seasoned, 251 is not. */
    private static void seasonedShareAtTheEdge() {
        Staveyard yard = new Staveyard();
        for (int log = 0; log < 4; log++) {
            Yards.oneStave(yard, 0, 17, 6, 2);
        }
        for (int month = 0; month < 6; month++) {
            yard.month(80, 0);
        }
        yard.month(69, 0);
        Check.same("all at 251", yard.seasonedShare(), 0.0f);
        yard.month(1, 0);
        Check.same("all at 250", yard.seasonedShare(), 1.0f);
        yard.month(0, 1);
        Check.same("one of four at 251", yard.seasonedShare(), 0.75f);
    }

    /** "Their number divided by that of all, both converted to float": 1 of 3, 2 of 3 and 36 of 37 are no round numbers. */
    private static void seasonedShareIsAFloat() {
        Staveyard yard = Yards.forties(3);
        yard.month(0, 60);
        yard.month(0, 60);
        Check.same("2 of 3", yard.seasonedShare(), 2.0f / 3.0f);
        yard.turnStack();
        yard.month(0, 60);
        yard.month(0, 60);
        Check.same("1 of 3", yard.seasonedShare(), 1.0f / 3.0f);
        Staveyard many = Yards.seasoned();
        many.month(0, 60);
        many.month(0, 60);
        Check.same("36 of 37", many.seasonedShare(), 36.0f / 37.0f);
    }

    /** meanLoss: "lost in all, divided by the months in which casks were kept", of all casks; what is poured is not lost. */
    private static void meanLossOfAllCasks() {
        Staveyard yard = Yards.twoFilled();
        yard.keep(0, 1, 0);
        Check.same("12 of 6421", yard.meanLoss(), 12.0);
        int left = yard.keep(1, 2, 4);
        Check.same("and two months of the other", yard.meanLoss(), (12.0 + (yard.content(1) - left)) / 3.0);
        double before = yard.meanLoss();
        yard.pour(0, 1000);
        yard.emptyVat();
        yard.month(10, 10);
        Check.same("poured, not lost", yard.meanLoss(), before);
        Staveyard third = Yards.filled();
        third.pour(0, 421);
        third.keep(0, 3, 1);
        Check.same("18, 17 and 17", third.meanLoss(), 52.0 / 3.0);
    }

    /** isSound, from a new yard to a cask that was repaired, emptied and filled again. */
    private static void soundThroughout() {
        Staveyard yard = new Staveyard();
        Check.same("new", yard.isSound(), true);
        yard.addLog(1, 60, 9);
        yard.split(0);
        Check.same("split", yard.isSound(), true);
        Yards.dry(yard, 8, 78);
        yard.turnStack();
        Check.same("turned", yard.isSound(), true);
        yard.setJig(3);
        yard.raise(1000, 501, 997, 9);
        Check.same("raised", yard.isSound(), true);
        yard.bend(0, 0, 0);
        Check.same("all cracked", yard.isSound(), true);
        Staveyard full = Yards.filled();
        full.keep(0, 120, 4);
        Check.same("kept", full.isSound(), true);
        full.pour(0, 10);
        Check.same("in the vat", full.isSound(), true);
        full.emptyVat();
        Check.same("poured out", full.isSound(), true);
        full.pour(0, full.within(0, 'v'));
        full.replace(0, 5, 35);
        Check.same("repaired", full.isSound(), true);
        full.fill(0);
        Check.same("filled again", full.isSound(), true);
        Check.same("no try of all this", full.tries(), 0);
    }
}
