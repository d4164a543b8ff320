/** The edges that 'Terms' names of contents, filling and the vat, sentence by sentence. */
final class EdgesOfSpiritTest {
    public static void main(String[] args) {
        lengthsTimesAHundred();
        bothEndsCount();
        slicesAreCut();
        divisionsThatAreEven();
        diametersAreCut();
        halfOfBothEndsIsCut();
        formulaOfE();
        formulaOfG();
        formulaOfF();
        leastAndGreatestCasks();
        closestOfLikeOnes();
        fillingIsAUse();
        givesEight();
        twoLessForEachUse();
        twoMoreIfChar();
        asMuchAsThereIs();
        thousandthsByFloor();
        atLeastOneIsLost();
        monthInWhichNothingIsLeft();
        emptyHasNeither();
        tanninGoesInTheSamePart();
        lostLeavesItsTannin();
        emptyVat();
        emptiedVat();
        leastAge();
        regionsOfStaves();
        toastsAsBits();
        wholeYears();
        tasteIsCut();
        Check.end();
    }

    /** 37 staves of the log, of which any sum of 1000 and more can be made just so. */
    private static Staveyard cask(int bilge, int upper, int lower, int length) {
        Staveyard yard = new Staveyard();
        yard.addLog(2, 60, length);
        yard.split(0);
        Yards.dry(yard, 8, 78);
        Check.same("raised", yard.raise(bilge, upper, lower, length), 0);
        return yard;
    }

    private static void content(int due, int bilge, int upper, int lower) {
        Check.same("content of " + bilge + " " + upper + " " + lower, cask(bilge, upper, lower, 9).content(0), due);
        Check.same("content, turned", cask(bilge, lower, upper, 9).content(0), due);
    }

    private static void by(char land, int due, int bilge, int upper, int lower) {
        Check.same(land + " of " + bilge + " " + upper + " " + lower, cask(bilge, upper, lower, 9).contentBy(0, land), due);
        Check.same(land + ", turned", cask(bilge, lower, upper, 9).contentBy(0, land), due);
    }

    /** "Lengths are 100 times those told": from 6 to 12. */
    private static void lengthsTimesAHundred() {
        int[][] dues = {{4281, 4283, 3988, 4239}, {4994, 4997, 4653, 4945}, {5708, 5711, 5317, 5652}, {6421, 6424, 5982, 6358},
            {7135, 7138, 6647, 7065}, {7849, 7852, 7312, 7771}, {8562, 8566, 7976, 8478}};
        for (int length = 6; length <= 12; length++) {
            Staveyard yard = cask(1000, 840, 830, length);
            Check.same("true", yard.content(0), dues[length - 6][0]);
            Check.same("e", yard.contentBy(0, 'e'), dues[length - 6][1]);
            Check.same("g", yard.contentBy(0, 'g'), dues[length - 6][2]);
            Check.same("f", yard.contentBy(0, 'f'), dues[length - 6][3]);
        }
    }

    /** "from the bilge on to either end": of two ends, each counts for ten slices. */
    private static void bothEndsCount() {
        content(5138, 1000, 500, 500);
        content(5790, 1000, 840, 500);
        content(5792, 1000, 500, 841);
    }

    /**
     * What the bilge is more is "divided by 400, cut", else the first would be 5135; the girth squared is "divided by
     * 12566, cut", else the next ones would be one more; "divided by 10000, cut", of the sum, not rounded, nor of each slice.
     */
    private static void slicesAreCut() {
        content(5138, 1000, 500, 500);
        content(5792, 1000, 500, 841);
        content(6119, 1000, 912, 597);
        content(11011, 1300, 971, 1248);
        content(5257, 1000, 514, 555);
    }

    /** Where nothing is to be cut at last: the sum of the slices is a whole number of 10000. */
    private static void divisionsThatAreEven() {
        Check.same("length 8", cask(1000, 700, 665, 8).content(0), 5157);
        Check.same("length 10", cask(1000, 680, 660, 10).content(0), 6391);
        Check.same("length 12", cask(1000, 655, 655, 12).content(0), 7593);
        Check.same("g of 300 by 300", cask(1000, 887, 887, 8).contentBy(0, 'g'), 5652);
        Check.same("g of 250 by 250", cask(1000, 572, 578, 8).contentBy(0, 'g'), 3925);
    }

    /** "The diameter of a sum is 1000 times it, divided by 3142, cut": else these would be 5374, 4206 and 5072. */
    private static void diametersAreCut() {
        by('e', 5365, 1000, 500, 500);
        by('g', 4171, 1000, 514, 555);
        by('f', 5074, 1000, 514, 555);
    }

    /** "H that of half of the sum, cut, of both ends": else these would be 5395, 4206 and 5188. */
    private static void halfOfBothEndsIsCut() {
        by('e', 5387, 1000, 514, 511);
        by('g', 4171, 1000, 514, 555);
        by('f', 5150, 1000, 514, 599);
        by('e', 5499, 1000, 507, 599);
        by('g', 4310, 1000, 507, 599);
        by('f', 5265, 1000, 507, 643);
    }

    /** "'e' is L times (2 B B + H H) times 262, divided by 1000", and by 10000, cut: 5838.7 and 10965.9. */
    private static void formulaOfE() {
        by('e', 5838, 1000, 500, 841);
        by('e', 10965, 1300, 971, 1248);
        by('e', 6115, 1000, 912, 597);
    }

    /** "'g' L times the square of half of B + H, cut": else these would be 4018 and 5479. */
    private static void formulaOfG() {
        by('g', 4001, 1000, 500, 500);
        by('g', 5460, 1000, 912, 597);
        by('g', 10309, 1300, 971, 1248);
    }

    /** "'f' L times the square of H plus two thirds, cut, of B less H": else these would be 4973 or 4924, and 5049 or 4998. */
    private static void formulaOfF() {
        by('f', 4961, 1000, 500, 511);
        by('f', 5036, 1000, 500, 544);
        by('f', 10856, 1300, 971, 1248);
        by('f', 5982, 1000, 912, 597);
    }

    /** The least and the greatest sums that a cask can have. */
    private static void leastAndGreatestCasks() {
        Staveyard least = Yards.forties(8);
        least.raise(320, 160, 160, 6);
        Check.same("true", least.content(0), 351);
        Check.same("e", least.contentBy(0, 'e'), 360);
        Check.same("g", least.contentBy(0, 'g'), 264);
        Check.same("f", least.contentBy(0, 'f'), 332);
        Check.same("closest", least.closest(0), 'e');
        Staveyard greatest = Yards.widest();
        greatest.raise(3000, 2999, 2999, 9);
        Check.same("true", greatest.content(0), 64459);
        Check.same("e", greatest.contentBy(0, 'e'), 64381);
        Check.same("g", greatest.contentBy(0, 'g'), 64299);
        Check.same("f", greatest.contentBy(0, 'f'), 64299);
        Check.same("closest", greatest.closest(0), 'e');
        Staveyard curved = Yards.widest();
        curved.raise(3000, 1500, 1500, 9);
        Check.same("true", curved.content(0), 46249);
        Check.same("e", curved.contentBy(0, 'e'), 48286);
        Check.same("g", curved.contentBy(0, 'g'), 36118);
        Check.same("f", curved.contentBy(0, 'f'), 44652);
        Check.same("closest", curved.closest(0), 'f');
    }

    /** closest: "of several the first of e, g, f". No sums that can be raised make 'g' the closest. */
    private static void closestOfLikeOnes() {
        Staveyard two = Yards.forties(8);
        two.raise(320, 304, 314, 6);
        Check.same("e", two.contentBy(0, 'e'), 471);
        Check.same("f", two.contentBy(0, 'f'), 471);
        Check.same("of e and f", two.closest(0), 'e');
        Staveyard three = Yards.nine();
        three.raise(386, 385, 383, 6);
        Check.same("all three", three.contentBy(0, 'e') + " " + three.contentBy(0, 'g') + " " + three.contentBy(0, 'f'), "701 701 701");
        Check.same("of all three", three.closest(0), 'e');
        Check.same("f alone", cask(1000, 500, 500, 9).closest(0), 'f');
        Check.same("e alone", cask(1000, 840, 830, 9).closest(0), 'e');
    }

    private static Staveyard holding(int volume) {
        Staveyard yard = Yards.filled();
        if (volume < 6421) {
            yard.pour(0, 6421 - volume);
            yard.emptyVat();
        }
        return yard;
    }

    /** "A whole cask that is empty is filled with new spirit up to its true content; that is a use". */
    private static void fillingIsAUse() {
        Staveyard yard = Yards.whole();
        Check.same("none at first", yard.within(0, 'u'), 0);
        for (int use = 1; use <= 5; use++) {
            Check.same("its true content", yard.fill(0), yard.content(0));
            Check.same("a use", yard.within(0, 'u'), use);
            Check.same("new spirit", yard.within(0, 't') + " " + yard.within(0, 'm'), "0 0");
            yard.keep(0, 2, 0);
            yard.pour(0, yard.within(0, 'v'));
            Check.same("pouring is none", yard.within(0, 'u'), use);
        }
        yard.fill(0);
        Check.refuses("it is full", yard, Check.UNSUPPORTED, () -> yard.fill(0));
        Check.same("a refused one is none", yard.within(0, 'u'), 6);
    }

    private static int drawnInUse(int use, boolean isChar) {
        Staveyard yard = Yards.whole();
        yard.toast(0, 150, isChar ? 40 : 39);
        for (int before = 1; before < use; before++) {
            yard.fill(0);
            yard.pour(0, 6421);
        }
        yard.fill(0);
        yard.keep(0, 1, 0);
        return yard.within(0, 't');
    }

    /** "each stave gives, of its tannin, 8": nine staves in the first use. */
    private static void givesEight() {
        Check.same("first use", drawnInUse(1, false), 72);
        Staveyard yard = Yards.filled();
        yard.keep(0, 1, 4);
        for (int place = 0; place < 9; place++) {
            Check.same("each stave", yard.stave(yard.at(0, place), 't'), 492);
        }
        Check.same("those of the stack do not", yard.stave(36, 't'), 500);
        yard.keep(0, 2, 0);
        Check.same("each month", yard.within(0, 't'), 216);
    }

    /** "less 2 for each use ahead of this one, at least 1": 8, 6, 4, 2, then 1. */
    private static void twoLessForEachUse() {
        int[] dues = {8, 6, 4, 2, 1, 1, 1, 1};
        for (int use = 1; use <= 8; use++) {
            Check.same("use " + use, drawnInUse(use, false), 9 * dues[use - 1]);
        }
    }

    /** "plus 2 if its layer 0 is char": at a toast of 39 not, at 40; of each stave by itself. */
    private static void twoMoreIfChar() {
        int[] dues = {10, 8, 6, 4, 3, 3, 3};
        for (int use = 1; use <= 7; use++) {
            Check.same("char, use " + use, drawnInUse(use, true), 9 * dues[use - 1]);
        }
        Staveyard yard = Yards.whole();
        yard.toast(0, 150, 40);
        yard.replace(0, 5, 35);
        yard.fill(0);
        yard.keep(0, 1, 0);
        Check.same("eight that are char and one that is not", yard.within(0, 't'), 88);
        Check.same("char", yard.stave(32, 't'), 490);
        Check.same("none", yard.stave(35, 't'), 492);
        Staveyard shaved = Yards.whole();
        shaved.toast(0, 200, 43);
        shaved.shave(0, 2);
        shaved.fill(0);
        shaved.keep(0, 1, 0);
        Check.same("shaved down to 38", shaved.within(0, 't'), 72);
        Staveyard less = Yards.whole();
        less.toast(0, 200, 43);
        less.shave(0, 1);
        less.fill(0);
        less.keep(0, 1, 0);
        Check.same("shaved down to 40", less.within(0, 't'), 90);
    }

    /** "as much as there is": 500 are 62 times 8 and 4. */
    private static void asMuchAsThereIs() {
        Staveyard yard = Yards.filled();
        yard.keep(0, 62, 0);
        Check.same("4 are left", yard.stave(32, 't'), 4);
        yard.keep(0, 1, 0);
        Check.same("none is left", yard.stave(32, 't'), 0);
        Check.same("4 of each", yard.within(0, 't'), 4500);
        yard.keep(0, 1, 0);
        Check.same("no more", yard.within(0, 't'), 4500);
        Check.same("no less than none", yard.stave(32, 't'), 0);
        Staveyard charred = Yards.whole();
        charred.toast(0, 150, 40);
        charred.fill(0);
        charred.keep(0, 50, 0);
        Check.same("just none is left", charred.stave(32, 't'), 0);
        Check.same("all of it", charred.within(0, 't'), 4500);
        charred.keep(0, 1, 0);
        Check.same("nothing to give", charred.within(0, 't'), 4500);
    }

    /** "so many thousandths as 2 plus the floor", cut. */
    private static void thousandthsByFloor() {
        int[][] dues = {{999, 0, 1}, {1000, 0, 2}, {1499, 0, 2}, {1500, 0, 3}, {666, 1, 1}, {667, 1, 2}, {499, 2, 1}, {500, 2, 2},
            {399, 3, 1}, {400, 3, 2}, {333, 4, 1}, {334, 4, 2}, {6421, 0, 12}, {6421, 4, 38}};
        for (int[] due : dues) {
            Check.same(due[0] + " on the floor " + due[1], holding(due[0]).keep(0, 1, due[1]), due[0] - due[2]);
        }
    }

    /** "at least 1", where the thousandths are none. */
    private static void atLeastOneIsLost() {
        int[][] dues = {{499, 0}, {500, 0}, {166, 4}, {167, 4}, {2, 0}, {2, 4}, {1, 0}, {1, 4}, {100, 3}};
        for (int[] due : dues) {
            Check.same(due[0] + " on the floor " + due[1], holding(due[0]).keep(0, 1, due[1]), due[0] - 1);
        }
        Check.same("month by month", holding(100).keep(0, 60, 0), 40);
    }

    /** "If nothing is left, it is empty": in the last of the months, or in one ahead of it; what comes then is no month of keeping. */
    private static void monthInWhichNothingIsLeft() {
        int[][] dues = {{3, 2, 1, 2}, {3, 3, 0, 3}, {3, 4, 0, 3}, {3, 120, 0, 3}, {1, 1, 0, 1}, {1, 120, 0, 1}, {120, 120, 0, 120}, {120, 119, 1, 119}};
        for (int[] due : dues) {
            Staveyard yard = holding(due[0]);
            String what = due[0] + " for " + due[1] + " months";
            Check.same(what, yard.keep(0, due[1], 0), due[2]);
            Check.same(what + ", lost in a month", yard.meanLoss(), 1.0);
            Check.same(what + ", given by a stave", yard.stave(32, 't'), Math.max(0, 500 - 8 * due[3]));
            Check.same(what + ", months", yard.within(0, 'm'), due[2] == 0 ? 0 : due[1]);
            Check.same(what + ", events", Picture.events(yard, 0), due[2] == 0 ? "rbghghfe" : "rbghghf");
            Check.same(what + ", sound", yard.isSound(), true);
        }
    }

    /** "and has neither tannin nor months": once all is lost, or poured out. */
    private static void emptyHasNeither() {
        Staveyard lost = holding(2);
        lost.keep(0, 1, 0);
        Check.same("one left", lost.within(0, 'v') + " " + lost.within(0, 't') + " " + lost.within(0, 'm'), "1 72 1");
        lost.keep(0, 1, 0);
        Check.same("all lost", lost.within(0, 'v') + " " + lost.within(0, 't') + " " + lost.within(0, 'm'), "0 0 0");
        Check.refuses("no taste", lost, Check.ARITHMETIC, () -> lost.taste(0));
        Staveyard poured = holding(100);
        poured.keep(0, 1, 0);
        poured.pour(0, 98);
        Check.same("one left", poured.within(0, 'v') + " " + poured.within(0, 't') + " " + poured.within(0, 'm'), "1 0 1");
        poured.pour(0, 1);
        Check.same("all poured", poured.within(0, 'v') + " " + poured.within(0, 't') + " " + poured.within(0, 'm'), "0 0 0");
        Check.same("the use stays", poured.within(0, 'u'), 1);
        Check.same("it can be filled", poured.fill(0), 6421);
    }

    /** 720 centilitres with a tannin of 8: 90 of them have 1 just so. */
    private static Staveyard eightIn720() {
        Staveyard yard = Yards.filled();
        yard.keep(0, 1, 0);
        yard.pour(0, 5689);
        Check.same("72 times 5689 by 6409 is 63.9, rounded up", yard.vat('t'), 64);
        Check.same("8 in 720", yard.within(0, 't') + " " + yard.within(0, 'v'), "8 720");
        yard.emptyVat();
        return yard;
    }

    /** "Tannin that was drawn goes in the same part, rounded up, as what is poured out". */
    private static void tanninGoesInTheSamePart() {
        int[][] dues = {{1, 1}, {89, 1}, {90, 1}, {91, 2}, {179, 2}, {180, 2}, {181, 3}, {630, 7}, {631, 8}, {719, 8}, {720, 8}};
        for (int[] due : dues) {
            Staveyard yard = eightIn720();
            yard.pour(0, due[0]);
            Check.same("poured with " + due[0], yard.vat('t'), due[1]);
            Check.same("left with " + (720 - due[0]), yard.within(0, 't'), 8 - due[1]);
        }
        Staveyard yard = eightIn720();
        for (int pour = 1; pour <= 10; pour++) {
            yard.pour(0, 1);
            Check.same("1 each, while there is any", yard.vat('t'), Math.min(8, pour));
        }
        Staveyard none = holding(10);
        none.pour(0, 3);
        Check.same("none of none", none.vat('t'), 0);
    }

    /** "what is lost leaves all of its tannin". */
    private static void lostLeavesItsTannin() {
        Staveyard yard = holding(3);
        yard.keep(0, 1, 4);
        Check.same("a third is lost", yard.within(0, 'v') + " " + yard.within(0, 't'), "2 72");
        yard.keep(0, 1, 4);
        Check.same("a half is lost", yard.within(0, 'v') + " " + yard.within(0, 't'), "1 144");
        yard.emptyVat();
        yard.pour(0, 1);
        Check.same("the last one takes it all", yard.vat('v') + " " + yard.vat('t'), "1 144");
    }

    private static String vat(Staveyard yard) {
        StringBuilder text = new StringBuilder();
        for (char what : "vtmrf".toCharArray()) {
            text.append(yard.vat(what)).append(' ');
        }
        return text.toString();
    }

    /** vat: "0 for an empty one", also while casks are full. */
    private static void emptyVat() {
        Check.same("new", vat(new Staveyard()), "0 0 0 0 0 ");
        Check.same("a full cask", vat(Yards.filled()), "0 0 0 0 0 ");
        Check.same("nothing to empty", new Staveyard().emptyVat(), 0);
        Staveyard yard = Yards.filled();
        yard.keep(0, 12, 0);
        Check.refuses("too much", yard, Check.UNSUPPORTED, () -> yard.pour(0, 6421));
        Check.same("nothing was poured", vat(yard), "0 0 0 0 0 ");
    }

    /** emptyVat: "the centilitres that were there"; the next that comes in begins anew. */
    private static void emptiedVat() {
        Staveyard yard = Yards.filled();
        yard.pour(0, 1);
        Check.same("new spirit", vat(yard), "1 0 0 4 4 ");
        yard.keep(0, 20, 0);
        yard.pour(0, 100);
        Check.same("older", yard.vat('m'), 0);
        Check.same("emptied", yard.emptyVat(), 101);
        Check.same("then", vat(yard), "0 0 0 0 0 ");
        Check.same("emptied again", yard.emptyVat(), 0);
        yard.pour(0, 1);
        Check.same("begun anew", yard.vat('m'), 20);
        Check.same("with its wood", yard.vat('r') + " " + yard.vat('f'), "4 4");
        Check.same("sound", yard.isSound(), true);
    }

    /** "the least age in months": whichever comes first. */
    private static void leastAge() {
        Staveyard yard = Yards.twoFilled();
        yard.keep(0, 13, 0);
        yard.keep(1, 12, 0);
        yard.pour(0, 1);
        Check.same("13", yard.vat('m'), 13);
        yard.pour(1, 1);
        Check.same("12 is less", yard.vat('m'), 12);
        yard.pour(0, 1);
        Check.same("13 is more", yard.vat('m'), 12);
        yard.emptyVat();
        yard.pour(1, 1);
        yard.pour(0, 1);
        Check.same("12, then 13", yard.vat('m'), 12);
        yard.keep(1, 1, 0);
        yard.emptyVat();
        yard.pour(1, 1);
        yard.pour(0, 1);
        Check.same("13 and 13", yard.vat('m'), 13);
        yard.pour(0, yard.within(0, 'v'));
        Check.same("what was poured last has the age that it had", yard.vat('m'), 13);
        yard.fill(0);
        yard.pour(0, 1);
        Check.same("new spirit", yard.vat('m'), 0);
        yard.pour(1, 1);
        Check.same("0 is the least", yard.vat('m'), 0);
    }

    /** "regions of staves", as bits: 1, 2, 4 and 8. */
    private static void regionsOfStaves() {
        for (int region = 0; region <= 3; region++) {
            Staveyard yard = new Staveyard();
            yard.addLog(region, 60, 9);
            yard.split(0);
            Yards.dry(yard, 8, 78);
            yard.raise(1000, 840, 830, 9);
            yard.bend(0, 60, 60);
            Yards.head(yard, 0, 0, 4);
            Yards.head(yard, 0, 1, 4);
            yard.fill(0);
            yard.pour(0, 1);
            Check.same("region " + region, yard.vat('r'), 1 << region);
            Check.same("woods " + region, yard.woods(0), 1 << region);
        }
    }

    private static int toastedTo(int toast) {
        Staveyard yard = Yards.whole();
        for (int minutes = toast; minutes > 0; minutes -= 60) {
            yard.toast(0, 150, Math.min(60, minutes));
        }
        Check.same("the toast", yard.toastAt(0, 0, 0), toast);
        yard.fill(0);
        yard.pour(0, 1);
        return yard.vat('f');
    }

    /** "the toasts, as bits: 1 char, 2 of a layer 0 from 15 on, 4 of less". */
    private static void toastsAsBits() {
        int[][] dues = {{0, 4}, {1, 4}, {14, 4}, {15, 2}, {16, 2}, {39, 2}, {40, 1}, {41, 1}, {300, 1}};
        for (int[] due : dues) {
            Check.same("a toast of " + due[0], toastedTo(due[0]), due[1]);
        }
        toastsOfItsOwnStaves();
        Staveyard yard = Yards.whole();
        yard.toast(0, 150, 39);
        yard.replace(0, 5, 35);
        yard.fill(0);
        yard.pour(0, 1);
        Check.same("39 and 0", yard.vat('f'), 6);
        yard.pour(0, 6420);
        yard.toast(0, 150, 1);
        yard.fill(0);
        yard.emptyVat();
        yard.pour(0, 1);
        Check.same("40 and 1", yard.vat('f'), 5);
        yard.pour(0, 6420);
        yard.toast(0, 150, 14);
        yard.fill(0);
        yard.emptyVat();
        yard.pour(0, 1);
        Check.same("54 and 15", yard.vat('f'), 3);
    }

    /** The second cask: neither the toasts nor the regions of the first one, which has the stave 0, come into the vat. */
    private static void toastsOfItsOwnStaves() {
        Staveyard yard = new Staveyard();
        yard.addLog(0, 60, 9);
        yard.addLog(3, 60, 8);
        yard.split(0);
        yard.split(1);
        Yards.dry(yard, 8, 78);
        for (int cask = 0; cask < 2; cask++) {
            yard.raise(1000, 840, 830, 9 - cask);
            yard.bend(cask, 60, 60);
            Yards.head(yard, cask, 0, 4);
            Yards.head(yard, cask, 1, 4);
        }
        yard.toast(1, 150, 40);
        Check.same("the stave 0 is in the first", yard.toastAt(0, 3, 0) == 0 && yard.at(0, 3) == 0, true);
        yard.fill(1);
        yard.pour(1, 1);
        Check.same("char alone", yard.vat('f'), 1);
        Check.same("region 3 alone", yard.vat('r'), 8);
        Check.same("woods", yard.woods(0) + " " + yard.woods(1), "1 8");
    }

    /** statement: "whole years of the least months". */
    private static void wholeYears() {
        int[][] dues = {{1, 0}, {11, 0}, {12, 1}, {13, 1}, {23, 1}, {24, 2}, {119, 9}, {120, 10}};
        for (int[] due : dues) {
            Staveyard yard = Yards.filled();
            yard.keep(0, due[0], 0);
            yard.pour(0, 1);
            Check.same("after " + due[0] + " months", yard.statement(), due[1]);
        }
        Staveyard young = Yards.filled();
        young.pour(0, 1);
        Check.same("new spirit", young.statement(), 0);
    }

    /** taste: "100 times the tannin, divided by the centilitres, cut". */
    private static void tasteIsCut() {
        Check.same("new spirit", Yards.filled().taste(0), 0);
        Staveyard yard = eightIn720();
        Check.same("800 by 720", yard.taste(0), 1);
        yard.pour(0, 90);
        Check.same("700 by 630", yard.taste(0), 1);
        yard.pour(0, 280);
        Check.same("7 times 280 by 630 is 3.1, so 4 went, and 300 by 350", yard.within(0, 't') + " " + yard.taste(0), "3 0");
        Staveyard one = holding(2);
        one.keep(0, 1, 0);
        Check.same("7200 by 1", one.taste(0), 7200);
        Staveyard three = holding(8);
        three.keep(0, 1, 0);
        Check.same("7200 by 7 is 1028.6", three.taste(0), 1028);
    }
}
