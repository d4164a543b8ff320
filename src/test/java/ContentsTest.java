/** Promises 35 to 45: content, contentBy, closest, fill, keep, within, pour, vat, statement, emptyVat, taste. */
final class ContentsTest {
    public static void main(String[] args) {
        content();
        closest();
        contentRefuses();
        fill();
        fillRefuses();
        keepLoses();
        keepDraws();
        keepByUses();
        keepUntilEmpty();
        keepRefuses();
        within();
        pour();
        pourRefuses();
        vatAges();
        vatKinds();
        vatRefuses();
        statement();
        emptyVat();
        taste();
        Check.end();
    }

    private static void contents(Staveyard yard, int content, int e, int g, int f, char closest) {
        Check.same("content", yard.content(0), content);
        Check.same("e", yard.contentBy(0, 'e'), e);
        Check.same("g", yard.contentBy(0, 'g'), g);
        Check.same("f", yard.contentBy(0, 'f'), f);
        Check.same("closest", yard.closest(0), closest);
    }

    private static void content() {
        contents(Yards.raised(0), 6421, 6424, 5982, 6358, 'e');
        Staveyard alike = Yards.alike();
        alike.raise(352, 200, 201, 9);
        contents(alike, 668, 685, 534, 637, 'e');
        Staveyard nine = Yards.nine();
        nine.raise(363, 200, 204, 6);
        contents(nine, 469, 480, 373, 452, 'e');
        Staveyard slim = Yards.nine();
        slim.raise(384, 192, 383, 6);
        contents(slim, 604, 598, 529, 580, 'e');
        Staveyard great = Yards.seasoned();
        great.raise(2461, 1300, 2400, 9);
        contents(great, 37189, 37065, 33150, 36421, 'e');
        Check.same("an error changes no content", Yards.raised(3).content(0), 6421);
    }

    private static void closest() {
        Staveyard yard = Yards.seasoned();
        yard.raise(1000, 500, 500, 9);
        contents(yard, 5138, 5365, 4001, 4961, 'f');
        Staveyard like = new Staveyard();
        for (int log = 0; log < 8; log++) {
            Yards.oneCleft(like, 0, 24, 6, 0);
        }
        Yards.dry(like, 8, 78);
        like.raise(320, 304, 314, 6);
        Check.same("f is as close as e", like.contentBy(0, 'f'), like.contentBy(0, 'e'));
        Check.same("of two like ones, the first", like.closest(0), 'e');
        Staveyard three = new Staveyard();
        for (int log = 0; log < 8; log++) {
            Yards.oneCleft(three, 0, 24, 6, log == 7 ? 1 : 0);
        }
        Yards.dry(three, 8, 78);
        three.raise(323, 321, 321, 6);
        contents(three, 497, 490, 490, 490, 'e');
    }

    private static void contentRefuses() {
        Staveyard yard = Yards.raised(0);
        Check.refuses("content of cask 1", yard, Check.INDEX, () -> yard.content(1));
        Check.refuses("content of cask -1", yard, Check.INDEX, () -> yard.content(-1));
        Check.refuses("contentBy of cask 1", yard, Check.INDEX, () -> yard.contentBy(1, 'x'));
        Check.refuses("closest of cask 1", yard, Check.INDEX, () -> yard.closest(1));
        for (char land : new char[] {'x', 'E', (char) 0, (char) 65535}) {
            Check.refuses("land " + (int) land, yard, Check.ARGUMENT, () -> yard.contentBy(0, land));
        }
    }

    private static void fill() {
        Staveyard yard = Yards.whole();
        Check.same("fill", yard.fill(0), 6421);
        Check.same("v", yard.within(0, 'v'), 6421);
        Check.same("t", yard.within(0, 't'), 0);
        Check.same("m", yard.within(0, 'm'), 0);
        Check.same("u", yard.within(0, 'u'), 1);
        Check.same("event", yard.event(0, 0), 'f');
        yard.keep(0, 5, 1);
        yard.pour(0, yard.within(0, 'v'));
        Check.same("again", yard.fill(0), 6421);
        Check.same("new spirit has no tannin", yard.within(0, 't'), 0);
        Check.same("new spirit has no age", yard.within(0, 'm'), 0);
        Check.same("a second use", yard.within(0, 'u'), 2);
    }

    private static void fillRefuses() {
        Staveyard bent = Yards.bent(0);
        Check.refuses("not whole", bent, Check.UNSUPPORTED, () -> bent.fill(0));
        Staveyard full = Yards.filled();
        Check.refuses("full", full, Check.UNSUPPORTED, () -> full.fill(0));
        full.pour(0, 6420);
        Check.refuses("not empty", full, Check.UNSUPPORTED, () -> full.fill(0));
        Check.refuses("cask 1", full, Check.INDEX, () -> full.fill(1));
        Check.refuses("cask -1", full, Check.INDEX, () -> full.fill(-1));
    }

    private static void keepLoses() {
        for (int floor = 0; floor <= 4; floor++) {
            Check.same("floor " + floor, Yards.filled().keep(0, 1, floor), 6421 - 6421 * (2 + floor) / 1000);
        }
        Staveyard yard = Yards.filled();
        Check.same("three months on the floor 2", yard.keep(0, 3, 2), 6346);
        Check.same("months", yard.within(0, 'm'), 3);
        Check.same("and 117 more", yard.keep(0, 117, 0) > 0, true);
        Check.same("all months", yard.within(0, 'm'), 120);
        Staveyard little = Yards.filled();
        little.pour(0, 6421 - 5);
        Check.same("at least 1", little.keep(0, 3, 4), 2);
        Staveyard edge = Yards.filled();
        edge.pour(0, 6421 - 1000);
        Check.same("2 thousandths of 1000", edge.keep(0, 1, 0), 998);
        Check.same("of 998, at least 1", edge.keep(0, 1, 0), 997);
        Staveyard below = Yards.filled();
        below.pour(0, 6421 - 999);
        Check.same("2 thousandths of 999", below.keep(0, 1, 0), 998);
        Staveyard stands = Yards.filled();
        stands.drive(0, 0, 5);
        String before = stands.stave(36, 'm') + " " + stands.stave(36, 't') + " " + stands.tightness(0, 0) + " " + stands.stave(32, 'm');
        stands.keep(0, 120, 0);
        Check.same("the yard stands still", stands.stave(36, 'm') + " " + stands.stave(36, 't') + " " + stands.tightness(0, 0)
            + " " + stands.stave(32, 'm'), before);
    }

    private static void keepDraws() {
        Staveyard yard = Yards.filled();
        yard.keep(0, 1, 0);
        Check.same("8 of each stave", yard.within(0, 't'), 72);
        Check.same("of a stave", yard.stave(32, 't'), 492);
        yard.keep(0, 61, 0);
        Check.same("62 months", yard.within(0, 't'), 62 * 72);
        Check.same("4 are left", yard.stave(32, 't'), 4);
        yard.keep(0, 1, 0);
        Check.same("as much as there is", yard.within(0, 't'), 4500);
        Check.same("none is left", yard.stave(32, 't'), 0);
        yard.keep(0, 1, 0);
        Check.same("nothing to draw", yard.within(0, 't'), 4500);
        Staveyard toasted = Yards.whole();
        toasted.toast(0, 150, 39);
        toasted.fill(0);
        toasted.keep(0, 1, 0);
        Check.same("39 is no char", toasted.within(0, 't'), 72);
        Staveyard charred = Yards.whole();
        charred.toast(0, 150, 40);
        charred.fill(0);
        charred.keep(0, 2, 0);
        Check.same("char draws 2 more", charred.within(0, 't'), 180);
    }

    private static void keepByUses() {
        int[] perMonth = {8, 6, 4, 2, 1, 1, 1};
        Staveyard yard = Yards.whole();
        Staveyard charred = Yards.whole();
        charred.toast(0, 150, 40);
        for (int use = 0; use < perMonth.length; use++) {
            yard.fill(0);
            yard.keep(0, 2, 0);
            Check.same("use " + use, yard.within(0, 't'), 2 * 9 * perMonth[use]);
            yard.pour(0, yard.within(0, 'v'));
            charred.fill(0);
            charred.keep(0, 1, 0);
            Check.same("charred, use " + use, charred.within(0, 't'), 9 * (perMonth[use] + 2));
            charred.pour(0, charred.within(0, 'v'));
        }
    }

    private static void keepUntilEmpty() {
        Staveyard yard = Yards.filled();
        yard.keep(0, 1, 0);
        yard.pour(0, 6409 - 3);
        Check.same("all is lost", yard.keep(0, 10, 4), 0);
        Check.same("empty", yard.within(0, 'v'), 0);
        Check.same("without tannin", yard.within(0, 't'), 0);
        Check.same("without months", yard.within(0, 'm'), 0);
        Check.same("the use stays", yard.within(0, 'u'), 1);
        Check.same("an event", yard.event(0, 0), 'e');
        Check.same("one event", yard.event(0, 1), 'f');
        Check.same("15 lost in 4 months, as an empty cask is not kept", yard.meanLoss(), 15.0 / 4.0);
        Check.same("staves gave for 4 months", yard.stave(32, 't'), 500 - 4 * 8);
        Check.refuses("an empty one", yard, Check.UNSUPPORTED, () -> yard.keep(0, 1, 0));
        Check.same("filled again", yard.fill(0), 6421);
    }

    private static void keepRefuses() {
        Staveyard yard = Yards.filled();
        int[][] wrong = {{0, 0}, {121, 0}, {1, -1}, {1, 5}, {Integer.MIN_VALUE, 0}, {1, Integer.MAX_VALUE}};
        for (int[] keep : wrong) {
            Check.refuses("keep " + keep[0] + " " + keep[1], yard, Check.ARGUMENT, () -> yard.keep(0, keep[0], keep[1]));
        }
        Check.refuses("cask 1", yard, Check.INDEX, () -> yard.keep(1, 0, 0));
        Staveyard empty = Yards.whole();
        Check.refuses("an empty one", empty, Check.UNSUPPORTED, () -> empty.keep(0, 1, 0));
        Check.refuses("an empty one, out of range", empty, Check.ARGUMENT, () -> empty.keep(0, 0, 0));
    }

    private static void within() {
        Staveyard yard = Yards.raised(0);
        for (char what : "vtmu".toCharArray()) {
            Check.same("at first " + what, yard.within(0, what), 0);
        }
        Check.refuses("no such thing", yard, Check.ARGUMENT, () -> yard.within(0, 'x'));
        Check.refuses("cask 1", yard, Check.INDEX, () -> yard.within(1, 'x'));
        Check.refuses("cask -1", yard, Check.INDEX, () -> yard.within(-1, 'v'));
    }

    private static void pour() {
        Staveyard yard = Yards.filled();
        yard.keep(0, 1, 0);
        Staveyard just = Yards.filled();
        just.keep(0, 1, 0);
        just.pour(0, 6320);
        Check.same("72 times 6320 is 71 times 6409 and 1", just.vat('t'), 72);
        Check.same("pour 1", yard.pour(0, 1), 1);
        Check.same("rounded up", yard.vat('t'), 1);
        Check.same("71 stay", yard.within(0, 't'), 71);
        Check.same("pour 1000", yard.pour(0, 1000), 1001);
        Check.same("71 times 1000 by 6408 is 11.1", yard.vat('t'), 13);
        Check.same("59 stay", yard.within(0, 't'), 59);
        Check.same("the rest", yard.within(0, 'v'), 5408);
        Check.same("one month old", yard.within(0, 'm'), 1);
        Check.same("pour half, which is even", yard.pour(0, 2704), 3705);
        Check.same("29.5 rounded up", yard.within(0, 't'), 29);
        Check.same("pour all", yard.pour(0, 2704), 6409);
        Check.same("all tannin", yard.vat('t'), 72);
        Check.same("no months in an empty cask", yard.within(0, 'm'), 0);
        Check.same("it is empty", yard.event(0, 0), 'e');
        Check.same("pouring a part is no event", yard.event(0, 1), 'f');
        yard.fill(0);
        yard.pour(0, 6421);
        Check.same("spirit without tannin", yard.vat('t'), 72);
        Check.same("more in the vat than in a cask", yard.vat('v'), 12830);
    }

    private static void pourRefuses() {
        Staveyard yard = Yards.filled();
        Check.refuses("pour 0", yard, Check.ARGUMENT, () -> yard.pour(0, 0));
        Check.refuses("pour less", yard, Check.ARGUMENT, () -> yard.pour(0, Integer.MIN_VALUE));
        Check.refuses("more than there is", yard, Check.UNSUPPORTED, () -> yard.pour(0, 6422));
        Check.refuses("far more than there is", yard, Check.UNSUPPORTED, () -> yard.pour(0, Integer.MAX_VALUE));
        Check.refuses("cask 1", yard, Check.INDEX, () -> yard.pour(1, 0));
        Staveyard empty = Yards.raised(0);
        Check.refuses("of an empty one", empty, Check.UNSUPPORTED, () -> empty.pour(0, 1));
        Check.refuses("nothing of an empty one", empty, Check.ARGUMENT, () -> empty.pour(0, 0));
    }

    private static void vatAges() {
        Staveyard yard = Yards.filled();
        yard.keep(0, 30, 0);
        yard.pour(0, 100);
        Check.same("30 months", yard.vat('m'), 30);
        yard.keep(0, 10, 0);
        yard.pour(0, 100);
        Check.same("the youngest", yard.vat('m'), 30);
        yard.pour(0, yard.within(0, 'v'));
        yard.fill(0);
        yard.keep(0, 3, 0);
        yard.pour(0, 1);
        Check.same("a younger one", yard.vat('m'), 3);
        yard.keep(0, 3, 0);
        yard.pour(0, yard.within(0, 'v'));
        Check.same("the youngest stays", yard.vat('m'), 3);
        yard.fill(0);
        yard.pour(0, 1);
        Check.same("new spirit", yard.vat('m'), 0);
        yard.emptyVat();
        yard.keep(0, 8, 0);
        yard.pour(0, 1);
        Check.same("a new vat", yard.vat('m'), 8);
    }

    private static Staveyard toasted(int heat, int minutes) {
        Staveyard yard = Yards.whole();
        if (minutes > 0) {
            yard.toast(0, heat, minutes);
        }
        yard.fill(0);
        yard.pour(0, 1);
        return yard;
    }

    private static void vatKinds() {
        Check.same("no toast", toasted(150, 0).vat('f'), 4);
        Check.same("a toast of 14", toasted(150, 14).vat('f'), 4);
        Check.same("a toast of 15", toasted(150, 15).vat('f'), 2);
        Check.same("a toast of 39", toasted(150, 39).vat('f'), 2);
        Check.same("char", toasted(150, 40).vat('f'), 1);
        Staveyard yard = Yards.cracked();
        yard.toast(0, 150, 20);
        yard.replace(0, 0, 8);
        Yards.head(yard, 0, 0, 3);
        Yards.head(yard, 0, 1, 3);
        yard.fill(0);
        yard.pour(0, 7);
        Check.same("of one that came in, too", yard.vat('f'), 6);
        Check.same("regions 1 and 3", yard.vat('r'), 10);
        yard.pour(0, yard.within(0, 'v'));
        yard.toast(0, 150, 20);
        yard.fill(0);
        yard.pour(0, 7);
        Check.same("and char", yard.vat('f'), 7);
        regionsOfTwoCasks();
        yard.emptyVat();
        Check.same("an empty vat knows no toast", yard.vat('f'), 0);
        Check.same("an empty vat knows no region", yard.vat('r'), 0);
        yard.pour(0, 7);
        Check.same("a new vat", yard.vat('f'), 3);
    }

    /** The cask 0 is of region 2, the cask 1 of region 0. */
    private static void regionsOfTwoCasks() {
        Staveyard yard = new Staveyard();
        yard.addLog(2, 60, 9);
        yard.addLog(0, 60, 8);
        yard.split(0);
        yard.split(1);
        Yards.dry(yard, 8, 78);
        for (int cask = 0; cask < 2; cask++) {
            yard.raise(1000, 840, 830, 9 - cask);
            yard.bend(cask, 60, 60);
            Yards.head(yard, cask, 0, 4);
            Yards.head(yard, cask, 1, 4);
            yard.fill(cask);
            yard.keep(cask, 9 - cask, 0);
        }
        yard.pour(0, 100);
        Check.same("region 2", yard.vat('r'), 4);
        yard.pour(1, 100);
        Check.same("and region 0", yard.vat('r'), 5);
        Check.same("8 months of the other", yard.vat('m'), 8);
        yard.pour(0, 100);
        Check.same("still both", yard.vat('r'), 5);
        Check.same("both filled, kept and poured", yard.isSound(), true);
    }

    private static void vatRefuses() {
        Staveyard yard = Yards.filled();
        for (char what : new char[] {'x', 'V', 'w', 'u', (char) 0}) {
            Check.refuses("vat " + (int) what, yard, Check.ARGUMENT, () -> yard.vat(what));
        }
        Check.same("v", yard.vat('v'), 0);
    }

    private static void statement() {
        Staveyard yard = Yards.filled();
        Check.refuses("of an empty vat", yard, Check.NO_ELEMENT, () -> yard.statement());
        int[][] dues = {{11, 0}, {1, 1}, {11, 1}, {1, 2}, {36, 5}};
        for (int[] due : dues) {
            yard.keep(0, due[0], 0);
            yard.emptyVat();
            yard.pour(0, 1);
            Check.same("years", yard.statement(), due[1]);
        }
        yard.pour(0, yard.within(0, 'v'));
        Check.same("all poured", yard.statement(), 5);
        yard.emptyVat();
        Check.refuses("of a vat that was emptied", yard, Check.NO_ELEMENT, () -> yard.statement());
    }

    private static void emptyVat() {
        Staveyard yard = Yards.filled();
        Check.same("empty", yard.emptyVat(), 0);
        yard.keep(0, 12, 0);
        yard.pour(0, 700);
        Check.same("700", yard.emptyVat(), 700);
        for (char what : "vtmrf".toCharArray()) {
            Check.same("then " + what, yard.vat(what), 0);
        }
        Check.same("again", yard.emptyVat(), 0);
        Check.same("sound", yard.isSound(), true);
    }

    private static void taste() {
        Staveyard yard = Yards.filled();
        Check.same("new spirit", yard.taste(0), 0);
        yard.keep(0, 14, 2);
        Check.same("100 times 1008 by 6078", yard.taste(0), 16);
        Staveyard last = Yards.filled();
        last.keep(0, 60, 0);
        last.pour(0, last.within(0, 'v') - 2);
        int tannin = last.within(0, 't');
        Check.same("tannin stays as spirit is lost", last.keep(0, 1, 0), 1);
        Check.same("drawn as well", last.within(0, 't'), tannin + 72);
        Check.same("in one centilitre", last.taste(0), 100 * (tannin + 72));
        last.pour(0, 1);
        Check.refuses("of an empty one", last, Check.ARITHMETIC, () -> last.taste(0));
        Check.refuses("cask 1", last, Check.INDEX, () -> last.taste(1));
        Check.refuses("cask -1", last, Check.INDEX, () -> last.taste(-1));
    }
}
