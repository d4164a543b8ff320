/** Promises 46 to 50: replace, originals, events, event, woods. */
final class RepairsTest {
    public static void main(String[] args) {
        replace();
        replaceUnseasoned();
        replaceRefuses();
        replaceOrderOfRefusals();
        originals();
        events();
        eventsForgotten();
        woods();
        Check.end();
    }

    private static void replace() {
        Staveyard yard = Yards.bent(0);
        yard.toast(0, 300, 20);
        yard.setJig(1);
        Check.same("replace", yard.replace(0, 5, 35), 8);
        Check.same("in the place", yard.at(0, 5), 35);
        Check.same("cut to the width", yard.stave(35, 'w'), 72);
        Check.same("the old one keeps its width", yard.stave(2, 'w'), 72);
        Check.same("not in the stack", yard.stacked(), 27);
        Check.same("the one on top stays", yard.inStack(0), 36);
        Check.same("the next one", yard.inStack(1), 34);
        Check.same("not toasted", yard.toastAt(0, 5, 0), 0);
        Check.same("its moisture stays", yard.stave(35, 'm'), 176);
        Check.same("jointed by the jig", yard.width(0, 5, 0), Yards.raised(1).width(0, 5, 0));
        Check.same("an event", yard.event(0, 0), 'x');
        Check.same("sound", yard.isSound(), true);
        Check.same("just as wide", yard.replace(0, 5, 10), 8);
        Check.same("the one that came in is thrown away", yard.isWhere(35), 'x');
        Staveyard cracked = Yards.cracked();
        cracked.replace(0, 0, 8);
        Check.same("not cracked", cracked.isCracked(0, 0), false);
        Check.same("cut to 44", cracked.stave(8, 'w'), 44);
    }

    private static void replaceUnseasoned() {
        Staveyard yard = Yards.bent(0);
        yard.addLog(0, 60, 9);
        yard.split(1);
        Check.same("green, and just as wide", yard.stave(39, 'w') + " " + yard.stave(39, 'm'), "72 800");
        Check.same("seasoned or not", yard.replace(0, 5, 39), 8);
        Check.same("as moist as it was", yard.stave(39, 'm'), 800);
    }

    private static void replaceRefuses() {
        Staveyard yard = Yards.bent(0);
        yard.addLog(0, 60, 8);
        yard.split(1);
        Check.refuses("narrower", yard, Check.UNSUPPORTED, () -> yard.replace(0, 5, 30));
        Check.refuses("of another length", yard, Check.UNSUPPORTED, () -> yard.replace(0, 5, 37));
        Check.refuses("in the same cask", yard, Check.UNSUPPORTED, () -> yard.replace(0, 5, 32));
        Check.refuses("the same one", yard, Check.UNSUPPORTED, () -> yard.replace(0, 5, 2));
        Check.refuses("stave 74", yard, Check.INDEX, () -> yard.replace(0, 5, 74));
        Check.refuses("stave -1", yard, Check.INDEX, () -> yard.replace(0, 5, -1));
        Check.refuses("cask 1", yard, Check.INDEX, () -> yard.replace(1, 5, 35));
        Check.refuses("place 9", yard, Check.NO_ELEMENT, () -> yard.replace(0, 9, 35));
        Check.refuses("place -1", yard, Check.NO_ELEMENT, () -> yard.replace(0, -1, 35));
        yard.replace(0, 5, 35);
        Check.refuses("thrown away", yard, Check.UNSUPPORTED, () -> yard.replace(0, 5, 2));
        Staveyard green = Yards.raised(0);
        Check.refuses("not bent", green, Check.STATE, () -> green.replace(0, 5, 35));
        Staveyard full = Yards.filled();
        Check.refuses("full", full, Check.STATE, () -> full.replace(0, 5, 35));
        full.pour(0, 6420);
        Check.refuses("with a little", full, Check.STATE, () -> full.replace(0, 5, 35));
        full.pour(0, 1);
        Check.same("empty", full.replace(0, 5, 35), 8);
    }

    private static void replaceOrderOfRefusals() {
        Staveyard yard = Yards.raised(0);
        Check.refuses("no stave, no place", yard, Check.INDEX, () -> yard.replace(0, 99, 99));
        Check.refuses("no place, in a cask", yard, Check.NO_ELEMENT, () -> yard.replace(0, 99, 32));
        Check.refuses("narrower, not bent", yard, Check.UNSUPPORTED, () -> yard.replace(0, 5, 30));
    }

    private static void originals() {
        Staveyard yard = Yards.bent(0);
        Check.same("all", yard.originals(0), 9);
        yard.replace(0, 5, 35);
        yard.replace(0, 5, 10);
        Check.same("one place is new", yard.originals(0), 8);
        yard.replace(0, 3, 33);
        Check.same("two places are new", yard.originals(0), 7);
        Check.refuses("cask 1", yard, Check.INDEX, () -> yard.originals(1));
        Check.refuses("cask -1", yard, Check.INDEX, () -> yard.originals(-1));
    }

    private static void events() {
        Staveyard yard = Yards.raised(0);
        Check.same("raised", Picture.events(yard, 0), "r");
        yard.bend(0, 20, 20);
        yard.toast(0, 200, 5);
        yard.shave(0, 1);
        Yards.head(yard, 0, 0, 4);
        Yards.head(yard, 0, 1, 4);
        yard.drive(0, 0, 1);
        yard.replace(0, 5, 35);
        yard.fill(0);
        yard.keep(0, 1, 0);
        yard.pour(0, 5);
        yard.pour(0, yard.within(0, 'v'));
        yard.month(0, 0);
        Check.same("all of them", Picture.events(yard, 0), "rbtsghghxfe");
        Check.same("how many", yard.events(0), 11);
        Check.same("the latest", yard.event(0, 0), 'e');
        Check.same("the first", yard.event(0, 10), 'r');
        Check.refuses("none so far back", yard, Check.NO_ELEMENT, () -> yard.event(0, 11));
        Check.refuses("none to come", yard, Check.NO_ELEMENT, () -> yard.event(0, -1));
        Check.refuses("event of cask 1", yard, Check.INDEX, () -> yard.event(1, 99));
        Check.refuses("events of cask 1", yard, Check.INDEX, () -> yard.events(1));
        int head = yard.cutHead(300);
        yard.groove(0, 0, 5);
        yard.fit(0, 0, head);
        Check.same("a head that does not fit is none", yard.event(0, 0), 'g');
    }

    private static void eventsForgotten() {
        Staveyard yard = Yards.bent(0);
        for (int shave = 0; shave < 17; shave++) {
            yard.shave(0, 1);
        }
        Check.same("19", yard.events(0), 19);
        yard.toast(0, 200, 1);
        Check.same("20", yard.events(0), 20);
        Check.same("none is forgotten", Picture.events(yard, 0), "rbssssssssssssssssst");
        yard.shave(0, 1);
        Check.same("still 20", yard.events(0), 20);
        Check.same("the first is forgotten", Picture.events(yard, 0), "bssssssssssssssssst" + "s");
        Check.refuses("the first is too far back", yard, Check.NO_ELEMENT, () -> yard.event(0, 20));
        for (int shave = 0; shave < 30; shave++) {
            yard.shave(0, 1);
        }
        Check.same("20 at most", Picture.events(yard, 0), "ssssssssssssssssssss");
    }

    private static void woods() {
        Staveyard yard = Yards.alike();
        yard.raise(352, 200, 200, 9);
        Check.same("regions 0 and 3", yard.woods(0), 9);
        yard.bend(0, 60, 60);
        yard.replace(0, 0, 8);
        Check.same("regions 1 and 3", yard.woods(0), 10);
        Check.same("region 2", Yards.raised(0).woods(0), 4);
        Check.refuses("cask 1", yard, Check.INDEX, () -> yard.woods(1));
        Check.refuses("cask -1", yard, Check.INDEX, () -> yard.woods(-1));
    }
}
