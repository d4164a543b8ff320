/** Promises 51 to 54: widths, seasonedShare, meanLoss, isSound. */
final class FiguresTest {
    public static void main(String[] args) {
        widths();
        seasonedShare();
        meanLoss();
        isSound();
        Check.end();
    }

    private static void widths() {
        Check.same("none", new Staveyard().widths(), 0L);
        Staveyard yard = Yards.nine();
        Check.same("in the stack", yard.widths(), 445L);
        yard.raise(363, 300, 300, 6);
        Check.same("in a cask, one of them cut", yard.widths(), 424L);
        yard.bend(0, 60, 60);
        yard.replace(0, 5, 7);
        Check.same("the one of 61 is cut to 40, as one of 40 is thrown away", yard.widths(), 363L);
    }

    private static void seasonedShare() {
        Staveyard yard = new Staveyard();
        Check.refuses("no stack", yard, Check.ARITHMETIC, () -> yard.seasonedShare());
        for (int log = 0; log < 3; log++) {
            Yards.oneCleft(yard, 0, 20, 6, 5);
        }
        Check.same("none of three", yard.seasonedShare(), 0.0f);
        Yards.dry(yard, 8, 69);
        Check.same("all of three", yard.seasonedShare(), 1.0f);
        yard.month(0, 60);
        Check.same("two of three", yard.seasonedShare(), 2.0f / 3.0f);
        yard.turnStack();
        yard.month(0, 60);
        Check.same("one of three", yard.seasonedShare(), 1.0f / 3.0f);
        Staveyard all = Yards.alike();
        all.raise(352, 200, 200, 9);
        Check.same("those of a cask do not count", all.seasonedShare(), 1.0f);
        Staveyard used = new Staveyard();
        for (int log = 0; log < 8; log++) {
            Yards.oneCleft(used, 0, 24, 6, 0);
        }
        Yards.dry(used, 8, 78);
        used.raise(320, 304, 314, 6);
        Check.refuses("all are in a cask", used, Check.ARITHMETIC, () -> used.seasonedShare());
    }

    private static void meanLoss() {
        Staveyard yard = Yards.filled();
        Check.refuses("never kept", yard, Check.ARITHMETIC, () -> yard.meanLoss());
        yard.pour(0, 421);
        Check.refuses("poured is not lost", yard, Check.ARITHMETIC, () -> yard.meanLoss());
        yard.keep(0, 1, 0);
        Check.same("12 of 6000", yard.meanLoss(), 12.0);
        yard.keep(0, 2, 1);
        Check.same("17 twice more", yard.meanLoss(), 46.0 / 3.0);
        yard.pour(0, yard.within(0, 'v'));
        Check.same("still", yard.meanLoss(), 46.0 / 3.0);
    }

    private static void isSound() {
        Check.same("new", new Staveyard().isSound(), true);
        Staveyard yard = Yards.cracked();
        Check.same("cracked", yard.isSound(), true);
        yard.setJig(3);
        yard.replace(0, 0, 8);
        Check.same("repaired", yard.isSound(), true);
        Staveyard full = Yards.filled();
        Check.same("filled", full.isSound(), true);
        full.keep(0, 7, 3);
        full.pour(0, 1000);
        Check.same("in cask, lost and in the vat", full.isSound(), true);
        full.emptyVat();
        full.pour(0, full.within(0, 'v'));
        Check.same("poured out", full.isSound(), true);
        int tries = full.tries();
        full.isSound();
        Check.same("a check is no try", full.tries(), tries);
    }
}
