/** Each number that a 'Throws' line bounds, and each letter: the last that is refused and the first that is taken, on both sides. */
final class RangesTest {
    public static void main(String[] args) {
        logs();
        stack();
        sums();
        ends();
        casks();
        places();
        bending();
        heads();
        hoops();
        joints();
        contents();
        repairs();
        Check.end();
    }

    private static Staveyard twoLogs() {
        Staveyard yard = new Staveyard();
        yard.addLog(0, 30, 8);
        yard.addLog(0, 30, 8);
        return yard;
    }

    private static void logs() {
        Twins.range("addLog, region", Staveyard::new, Check.ARGUMENT, 0, 3, (yard, number) -> yard.addLog(number, 30, 8));
        Twins.range("addLog, radius", Staveyard::new, Check.ARGUMENT, 12, 60, (yard, number) -> yard.addLog(0, number, 8));
        Twins.range("addLog, length", Staveyard::new, Check.ARGUMENT, 6, 12, (yard, number) -> yard.addLog(0, 30, number));
        Twins.refuses("knot without a log", Staveyard::new, Check.INDEX, yard -> yard.knot(0, 0));
        Twins.refuses("split without a log", Staveyard::new, Check.INDEX, yard -> yard.split(0));
        Twins.range("knot, log", RangesTest::twoLogs, Check.INDEX, 0, 1, (yard, number) -> yard.knot(number, 0));
        Twins.range("knot, cleft", RangesTest::twoLogs, Check.ARGUMENT, 0, 7, (yard, number) -> yard.knot(1, number));
        Twins.range("split, log", RangesTest::twoLogs, Check.INDEX, 0, 1, (yard, number) -> yard.split(number));
        Twins.refuses("stave without one", RangesTest::twoLogs, Check.INDEX, yard -> yard.stave(0, 'w'));
        Twins.refuses("isWhere without one", RangesTest::twoLogs, Check.INDEX, yard -> yard.isWhere(0));
        Twins.range("stave, number", Yards::green, Check.INDEX, 0, 36, (yard, number) -> yard.stave(number, 'w'));
        Twins.range("isWhere, number", Yards::green, Check.INDEX, 0, 36, (yard, number) -> yard.isWhere(number));
        Twins.range("stave, of 80", Yards::widest, Check.INDEX, 0, 79, (yard, number) -> yard.stave(number, 'g'));
        Twins.range("isWhere, of 80", Yards::widest, Check.INDEX, 0, 79, (yard, number) -> yard.isWhere(number));
        Twins.letters("stave", Yards::green, "glmrtw", (yard, letter) -> yard.stave(36, (char) letter));
    }

    private static void stack() {
        Twins.refuses("inStack of an empty one", Staveyard::new, Check.NO_ELEMENT, yard -> yard.inStack(0));
        Twins.range("inStack, index", Yards::green, Check.NO_ELEMENT, 0, 36, (yard, number) -> yard.inStack(number));
        Twins.range("inStack, of 80", Yards::widest, Check.NO_ELEMENT, 0, 79, (yard, number) -> yard.inStack(number));
        Twins.range("inStack, without those of a cask", () -> Yards.raised(0), Check.NO_ELEMENT, 0, 27, (yard, number) -> yard.inStack(number));
        Twins.range("month, dry", Yards::twoBent, Check.ARGUMENT, 0, 80, (yard, number) -> yard.month(number, 7));
        Twins.range("month, rain", Yards::twoBent, Check.ARGUMENT, 0, 60, (yard, number) -> yard.month(7, number));
        Twins.range("setJig", Staveyard::new, Check.ARGUMENT, 0, 3, (yard, number) -> yard.setJig(number));
    }

    private static void sums() {
        Twins.range("leastSum, sum", Yards::widest, Check.ARGUMENT, 320, 3000, (yard, number) -> yard.leastSum(number, 9));
        Twins.takes("leastSum of the least sum", () -> Yards.forties(8), 320, yard -> yard.leastSum(320, 6));
        Twins.takes("leastSum of the greatest sum", Yards::widest, 3002, yard -> yard.leastSum(3000, 9));
        for (int sum : new int[] {319, 3001, Integer.MIN_VALUE, Integer.MAX_VALUE}) {
            Twins.refuses("leastSumAnew " + sum, () -> Yards.forties(8), Check.ARGUMENT, yard -> yard.leastSumAnew(sum, 6));
        }
        Twins.takes("leastSumAnew of the least sum", () -> Yards.forties(8), 320, yard -> yard.leastSumAnew(320, 6));
        Twins.refuses("leastSumAnew of the greatest sum", () -> Yards.forties(8), Check.NO_ELEMENT, yard -> yard.leastSumAnew(3000, 6));
        for (int bilge : new int[] {319, Integer.MIN_VALUE, -1, 0}) {
            Twins.refuses("raise, bilge " + bilge, () -> Yards.forties(8), Check.ARGUMENT, yard -> yard.raise(bilge, 200, 200, 6));
        }
        Twins.takes("raise, the least bilge", () -> Yards.forties(8), 0, yard -> yard.raise(320, 200, 200, 6));
        for (int bilge : new int[] {3001, Integer.MAX_VALUE}) {
            Twins.refuses("raise, bilge " + bilge, Yards::widest, Check.ARGUMENT, yard -> yard.raise(bilge, 2000, 2000, 9));
        }
        Twins.takes("raise, the greatest bilge", Yards::widest, 0, yard -> yard.raise(3000, 2000, 2000, 9));
    }

    /** At least half of the bilge, and less; half of an odd one is no whole number. */
    private static void ends() {
        Twins.range("raise, upper", Yards::nine, Check.ARGUMENT, 192, 383, (yard, number) -> yard.raise(384, number, 300, 6));
        Twins.range("raise, lower", Yards::nine, Check.ARGUMENT, 192, 383, (yard, number) -> yard.raise(384, 300, number, 6));
        Twins.range("raise, upper of an odd one", Yards::nine, Check.ARGUMENT, 193, 384, (yard, number) -> yard.raise(385, number, 300, 6));
        Twins.range("raise, lower of an odd one", Yards::nine, Check.ARGUMENT, 193, 384, (yard, number) -> yard.raise(385, 300, number, 6));
        Twins.range("raise, upper of the greatest", Yards::widest, Check.ARGUMENT, 1500, 2999, (yard, number) -> yard.raise(3000, number, 2000, 9));
        Twins.range("raise, lower of the least", () -> Yards.forties(8), Check.ARGUMENT, 160, 319, (yard, number) -> yard.raise(320, 200, number, 6));
    }

    /** Without a cask 0 is none; with two, 0 and 1 are. */
    private static void cask(String what, Twins.Maker two, Twins.Numbered use) {
        Twins.refuses(what + " without a cask", Yards::seasoned, Check.INDEX, yard -> use.of(yard, 0));
        Twins.range(what + ", cask", two, Check.INDEX, 0, 1, use);
    }

    private static Staveyard twoLeaking() {
        Staveyard yard = Yards.seasoned();
        yard.setJig(3);
        yard.raise(1000, 840, 830, 9);
        yard.raise(1000, 840, 830, 9);
        return yard;
    }

    private static Staveyard twoGrooved() {
        Staveyard yard = Yards.twoBent();
        yard.groove(0, 0, 3);
        yard.groove(1, 0, 3);
        yard.cutHead(273);
        yard.cutHead(273);
        return yard;
    }

    /** With a green log of the same length: the stave 69 is of 133, as wide as one can be. */
    private static Staveyard twoToRepair() {
        Staveyard yard = Yards.twoBent();
        yard.addLog(0, 60, 9);
        yard.split(1);
        return yard;
    }

    private static void casks() {
        cask("size", Yards::twoRaised, (yard, number) -> yard.size(number));
        cask("at", Yards::twoRaised, (yard, number) -> yard.at(number, 0));
        cask("width", Yards::twoRaised, (yard, number) -> yard.width(number, 0, 0));
        cask("closing", Yards::twoRaised, (yard, number) -> yard.closing(number, 0));
        cask("bend", Yards::twoRaised, (yard, number) -> yard.bend(number, 20, 20));
        cask("isCracked", Yards::twoRaised, (yard, number) -> yard.isCracked(number, 0));
        cask("toast", Yards::twoBent, (yard, number) -> yard.toast(number, 200, 10));
        cask("toastAt", Yards::twoBent, (yard, number) -> yard.toastAt(number, 0, 0));
        cask("shave", Yards::twoRaised, (yard, number) -> yard.shave(number, 1));
        cask("groove", Yards::twoBent, (yard, number) -> yard.groove(number, 0, 3));
        cask("fit", RangesTest::twoGrooved, (yard, number) -> yard.fit(number, 0, 0));
        cask("drive", Yards::twoBent, (yard, number) -> yard.drive(number, 0, 1));
        cask("tightness", Yards::twoRaised, (yard, number) -> yard.tightness(number, 0));
        cask("leaks", Yards::twoRaised, (yard, number) -> yard.leaks(number, 0, 0));
        cask("tryAir", Yards::twoRaised, (yard, number) -> yard.tryAir(number, 0, 1));
        cask("findLeak", RangesTest::twoLeaking, (yard, number) -> yard.findLeak(number));
        cask("isWhole", Yards::twoRaised, (yard, number) -> yard.isWhole(number));
        cask("content", Yards::twoRaised, (yard, number) -> yard.content(number));
        cask("contentBy", Yards::twoRaised, (yard, number) -> yard.contentBy(number, 'e'));
        cask("closest", Yards::twoRaised, (yard, number) -> yard.closest(number));
        cask("fill", Yards::twoWhole, (yard, number) -> yard.fill(number));
        cask("keep", Yards::twoFilled, (yard, number) -> yard.keep(number, 1, 0));
        cask("within", Yards::twoRaised, (yard, number) -> yard.within(number, 'v'));
        cask("pour", Yards::twoFilled, (yard, number) -> yard.pour(number, 1));
        cask("taste", Yards::twoFilled, (yard, number) -> yard.taste(number));
        cask("replace", RangesTest::twoToRepair, (yard, number) -> yard.replace(number, 0, Math.min(69, yard.staves() - 1)));
        cask("originals", Yards::twoRaised, (yard, number) -> yard.originals(number));
        cask("events", Yards::twoRaised, (yard, number) -> yard.events(number));
        cask("event", Yards::twoRaised, (yard, number) -> yard.event(number, 0));
        cask("woods", Yards::twoRaised, (yard, number) -> yard.woods(number));
    }

    /** A place of a ring of 9 is 0 to 8. */
    private static void places() {
        Twins.range("at, place", Yards::twoRaised, Check.NO_ELEMENT, 0, 8, (yard, number) -> yard.at(0, number));
        Twins.range("width, place", Yards::twoRaised, Check.NO_ELEMENT, 0, 8, (yard, number) -> yard.width(0, number, 0));
        Twins.range("width, height", Yards::twoRaised, Check.ARGUMENT, 0, 2, (yard, number) -> yard.width(0, 0, number));
        Twins.range("closing, height", Yards::twoRaised, Check.ARGUMENT, 0, 2, (yard, number) -> yard.closing(0, number));
        Twins.range("isCracked, place", Yards::twoRaised, Check.NO_ELEMENT, 0, 8, (yard, number) -> yard.isCracked(0, number));
        Twins.range("toastAt, place", Yards::twoBent, Check.NO_ELEMENT, 0, 8, (yard, number) -> yard.toastAt(0, number, 0));
        Twins.range("toastAt, layer", Yards::twoBent, Check.ARGUMENT, 0, 5, (yard, number) -> yard.toastAt(0, 0, number));
        Twins.range("leaks, place", Yards::twoBent, Check.NO_ELEMENT, 0, 8, (yard, number) -> yard.leaks(0, number, 0));
        Twins.range("leaks, height", Yards::twoBent, Check.ARGUMENT, 0, 2, (yard, number) -> yard.leaks(0, 0, number));
        Twins.Maker least = () -> ringOf(8);
        Twins.range("at, place of 8", least, Check.NO_ELEMENT, 0, 7, (yard, number) -> yard.at(0, number));
        Twins.range("leaks, place of 8", least, Check.NO_ELEMENT, 0, 7, (yard, number) -> yard.leaks(0, number, 0));
        Twins.Maker most = () -> ringOf(24);
        Twins.range("at, place of 24", most, Check.NO_ELEMENT, 0, 23, (yard, number) -> yard.at(0, number));
        Twins.range("width, place of 24", most, Check.NO_ELEMENT, 0, 23, (yard, number) -> yard.width(0, number, 2));
        Twins.range("leaks, place of 24", most, Check.NO_ELEMENT, 0, 23, (yard, number) -> yard.leaks(0, number, 2));
    }

    private static Staveyard ringOf(int size) {
        Staveyard yard = size == 8 ? Yards.forties(8) : Yards.widest();
        yard.raise(size == 8 ? 320 : 3000, size == 8 ? 200 : 2000, size == 8 ? 200 : 2000, size == 8 ? 6 : 9);
        Check.same("the size", yard.size(0), size);
        return yard;
    }

    private static void bending() {
        Twins.range("bend, fire", Yards::twoRaised, Check.ARGUMENT, 0, 60, (yard, number) -> yard.bend(0, number, 20));
        Twins.range("bend, steam", Yards::twoRaised, Check.ARGUMENT, 0, 60, (yard, number) -> yard.bend(0, 20, number));
        Twins.range("toast, heat", Yards::twoBent, Check.ARGUMENT, 100, 400, (yard, number) -> yard.toast(0, number, 10));
        Twins.range("toast, minutes", Yards::twoBent, Check.ARGUMENT, 1, 60, (yard, number) -> yard.toast(0, 200, number));
        Twins.range("shave, layers", Yards::twoBent, Check.ARGUMENT, 1, 3, (yard, number) -> yard.shave(0, number));
    }

    private static void heads() {
        Twins.range("groove, end", Yards::twoBent, Check.ARGUMENT, 0, 1, (yard, number) -> yard.groove(0, number, 3));
        Twins.range("groove, depth", Yards::twoBent, Check.ARGUMENT, 3, 8, (yard, number) -> yard.groove(0, 0, number));
        Twins.range("cutHead", RangesTest::twoGrooved, Check.ARGUMENT, 50, 1000, (yard, number) -> yard.cutHead(number));
        Twins.refuses("fit without a head", Yards::twoBent, Check.ARGUMENT, yard -> yard.fit(0, 0, 0));
        Twins.range("fit, head", RangesTest::twoGrooved, Check.ARGUMENT, 0, 1, (yard, number) -> yard.fit(0, 0, number));
        Twins.range("fit, end", RangesTest::bothGrooved, Check.ARGUMENT, 0, 1, (yard, number) -> yard.fit(0, number, 1));
    }

    private static Staveyard bothGrooved() {
        Staveyard yard = twoGrooved();
        yard.groove(0, 1, 8);
        return yard;
    }

    private static void hoops() {
        Twins.range("drive, hoop", Yards::twoBent, Check.ARGUMENT, 0, 5, (yard, number) -> yard.drive(0, number, 1));
        Twins.range("drive, blows", Yards::twoBent, Check.ARGUMENT, 1, 20, (yard, number) -> yard.drive(0, 0, number));
        Twins.range("tightness, hoop", Yards::twoBent, Check.ARGUMENT, 0, 5, (yard, number) -> yard.tightness(0, number));
    }

    /** The joints of a ring of 9: from 0, and behind the last 9. */
    private static void joints() {
        Twins.range("tryAir, from", Yards::twoBent, Check.ARGUMENT, 0, 8, (yard, number) -> yard.tryAir(0, number, 9));
        Twins.range("tryAir, to", Yards::twoBent, Check.ARGUMENT, 1, 9, (yard, number) -> yard.tryAir(0, 0, number));
        Twins.range("tryAir, not empty", Yards::twoBent, Check.ARGUMENT, 4, 9, (yard, number) -> yard.tryAir(0, 3, number));
        Twins.range("tryAir, not turned", Yards::twoBent, Check.ARGUMENT, 0, 4, (yard, number) -> yard.tryAir(0, number, 5));
    }

    private static void contents() {
        Twins.letters("contentBy", () -> Yards.raised(0), "efg", (yard, letter) -> yard.contentBy(0, (char) letter));
        Twins.letters("within", Yards::filled, "mtuv", (yard, letter) -> yard.within(0, (char) letter));
        Twins.letters("vat", Yards::filled, "fmrtv", (yard, letter) -> yard.vat((char) letter));
        Twins.range("keep, months", Yards::twoFilled, Check.ARGUMENT, 1, 120, (yard, number) -> yard.keep(0, number, 2));
        Twins.range("keep, floor", Yards::twoFilled, Check.ARGUMENT, 0, 4, (yard, number) -> yard.keep(0, 2, number));
        for (int amount : new int[] {0, -1, Integer.MIN_VALUE}) {
            Twins.refuses("pour " + amount, Yards::filled, Check.ARGUMENT, yard -> yard.pour(0, amount));
        }
        for (int amount : new int[] {6422, Integer.MAX_VALUE}) {
            Twins.refuses("pour " + amount, Yards::filled, Check.UNSUPPORTED, yard -> yard.pour(0, amount));
        }
        Twins.takes("pour the least", Yards::filled, 1, yard -> yard.pour(0, 1));
        Twins.takes("pour all", Yards::filled, 6421, yard -> yard.pour(0, 6421));
    }

    private static void repairs() {
        Twins.range("replace, place", RangesTest::twoToRepair, Check.NO_ELEMENT, 0, 8, (yard, number) -> yard.replace(0, number, 69));
        for (int stave : new int[] {-1, 10, Integer.MIN_VALUE, Integer.MAX_VALUE}) {
            Twins.refuses("replace, stave " + stave, RangesTest::lastIsLeft, Check.INDEX, yard -> yard.replace(0, 0, stave));
        }
        Twins.takes("replace, the first number", RangesTest::firstIsLeft, 7, yard -> yard.replace(0, 1, 0));
        Twins.takes("replace, the last number", RangesTest::lastIsLeft, 7, yard -> yard.replace(0, 0, 9));
        Twins.range("event, back", Yards::twoWhole, Check.NO_ELEMENT, 0, 5, (yard, number) -> yard.event(0, number));
    }

    /** The stave 0 is 49 wide, and eight others of 40 make the sum. */
    private static Staveyard firstIsLeft() {
        Staveyard yard = new Staveyard();
        Yards.oneStave(yard, 0, 17, 6, 5);
        for (int log = 1; log < 9; log++) {
            Yards.oneStave(yard, 0, 17, 6, 2);
        }
        Yards.dry(yard, 8, 78);
        yard.raise(320, 200, 200, 6);
        yard.bend(0, 60, 60);
        return yard;
    }

    /** Ten of 40, of which the first eight are in the cask. */
    private static Staveyard lastIsLeft() {
        Staveyard yard = Yards.forties(10);
        yard.raise(320, 200, 200, 6);
        yard.bend(0, 60, 60);
        return yard;
    }
}
