/** Promises 28 to 34: drive, tightness, leaks, tryAir, findLeak, tries, isWhole. */
final class HoopsTest {
    public static void main(String[] args) {
        drive();
        driveRefuses();
        tightness();
        leaksByError();
        leaksByMoisture();
        leaksByCracks();
        leaksRefuse();
        tryAir();
        tryAirRefuses();
        findLeak();
        findNoLeak();
        isWhole();
        Check.end();
    }

    private static void drive() {
        Staveyard yard = Yards.bent(0);
        Check.same("15 blows", yard.drive(0, 0, 15), 30);
        Check.same("30 is not above 30", yard.drive(0, 0, 1), 32);
        Check.same("then only 1", yard.drive(0, 0, 1), 33);
        Check.same("20 more", yard.drive(0, 0, 20), 53);
        Check.same("at most 60", yard.drive(0, 0, 20), 60);
        Check.same("still 60", yard.drive(0, 0, 1), 60);
        Check.same("20 at once", yard.drive(0, 5, 20), 36);
        Check.same("others are loose", yard.tightness(0, 1), 0);
        yard.month(0, 0);
        yard.drive(0, 4, 15);
        yard.month(0, 0);
        Check.same("29 and 2", yard.drive(0, 4, 1), 31);
        Check.same("31 and 1", yard.drive(0, 4, 1), 32);
        Check.same("a full one can be driven", Yards.filled().drive(0, 3, 2), 4);
    }

    private static void driveRefuses() {
        Staveyard yard = Yards.bent(0);
        int[][] wrong = {{-1, 1}, {6, 1}, {0, 0}, {0, 21}, {Integer.MIN_VALUE, 1}, {0, Integer.MIN_VALUE}};
        for (int[] drive : wrong) {
            Check.refuses("drive " + drive[0] + " " + drive[1], yard, Check.ARGUMENT, () -> yard.drive(0, drive[0], drive[1]));
        }
        Check.refuses("drive cask 1", yard, Check.INDEX, () -> yard.drive(1, 6, 0));
        Staveyard green = Yards.raised(0);
        Check.refuses("drive before bending", green, Check.UNSUPPORTED, () -> green.drive(0, 0, 1));
        Check.refuses("drive nowhere before bending", green, Check.ARGUMENT, () -> green.drive(0, 6, 1));
    }

    private static void tightness() {
        Staveyard yard = Yards.raised(0);
        for (int hoop = 0; hoop < 6; hoop++) {
            Check.same("at first " + hoop, yard.tightness(0, hoop), 0);
        }
        Check.refuses("hoop 6", yard, Check.ARGUMENT, () -> yard.tightness(0, 6));
        Check.refuses("hoop -1", yard, Check.ARGUMENT, () -> yard.tightness(0, -1));
        Check.refuses("cask 1", yard, Check.INDEX, () -> yard.tightness(1, 6));
    }

    /** Moistures of 156 let an error of 1 pass; each ten of the looser hoop lets one more pass. */
    private static void leaksByError() {
        for (int error = 0; error <= 3; error++) {
            Staveyard yard = Yards.bent(error);
            for (int height = 0; height < 3; height++) {
                Check.same("error " + error + " at " + height, yard.leaks(0, 8, height), error > 1 && height != 1);
            }
        }
        Staveyard yard = Yards.bent(3);
        yard.drive(0, 0, 20);
        yard.drive(0, 1, 9);
        Check.same("the looser hoop has 18", yard.leaks(0, 0, 0), true);
        yard.drive(0, 1, 1);
        Check.same("the looser hoop has 20", yard.leaks(0, 0, 0), false);
        Check.same("not at the lower end", yard.leaks(0, 0, 2), true);
        yard.drive(0, 2, 20);
        yard.drive(0, 3, 20);
        Check.same("hoops of the bilge do not help", yard.leaks(0, 0, 2), true);
        yard.drive(0, 5, 10);
        yard.drive(0, 4, 10);
        Check.same("hoops of the lower end", yard.leaks(0, 0, 2), false);
        yard.month(0, 0);
        Check.same("19 after a month", yard.leaks(0, 0, 2), true);
    }

    private static void leaksByMoisture() {
        Staveyard yard = Yards.raised(2);
        Check.same("352 of moisture", yard.leaks(0, 0, 0), true);
        yard.bend(0, 0, 24);
        Check.same("400 of moisture", yard.leaks(0, 0, 0), false);
        Staveyard less = Yards.raised(2);
        less.bend(0, 0, 23);
        Check.same("398 of moisture", less.leaks(0, 0, 0), true);
        Check.same("203 and 196", moistened(27).leaks(0, 7, 0), true);
        Check.same("204 and 196", moistened(28).leaks(0, 7, 0), false);
        Check.same("196 and 196", moistened(28).leaks(0, 6, 0), true);
    }

    /** Errors of 2, moistures of 196, but for the stave in the place 0, which has 176 and the rain. */
    private static Staveyard moistened(int rain) {
        Staveyard yard = Yards.alike();
        yard.setJig(2);
        yard.raise(352, 200, 200, 9);
        yard.bend(0, 0, 20);
        yard.turnStack();
        yard.month(0, rain);
        yard.replace(0, 0, 8);
        return yard;
    }

    private static void leaksByCracks() {
        Staveyard yard = Yards.cracked();
        for (int height = 0; height < 3; height++) {
            Check.same("behind the cracked one", yard.leaks(0, 0, height), true);
            Check.same("ahead of the cracked one", yard.leaks(0, 7, height), true);
            Check.same("next to it", yard.leaks(0, 1, height), false);
            Check.same("before it", yard.leaks(0, 6, height), false);
        }
        yard.drive(0, 2, 20);
        yard.drive(0, 3, 20);
        Check.same("hoops do not help", yard.leaks(0, 0, 1), true);
        yard.replace(0, 0, 8);
        Check.same("mended", yard.leaks(0, 0, 1), false);
        Check.same("mended ahead", yard.leaks(0, 7, 0), false);
        lastJointIsBehindTheBung();
    }

    /** The stave 7 is the widest, so in the place 0, and the only one that cracks. */
    private static void lastJointIsBehindTheBung() {
        Staveyard yard = new Staveyard();
        for (int log = 0; log < 8; log++) {
            Yards.oneCleft(yard, log == 7 ? 0 : 3, 20, 9, log == 7 ? 5 : 4);
        }
        Yards.dry(yard, 8, 78);
        yard.raise(355, 200, 200, 9);
        Check.same("one cracks", yard.bend(0, 0, 20), 1);
        Check.same("in the place 0", yard.at(0, 0), 7);
        Check.same("the joint ahead of the bung", yard.leaks(0, 7, 1), true);
        Check.same("the joint behind the bung", yard.leaks(0, 0, 1), true);
        int[] tight = {1, 2, 3, 4, 5, 6};
        for (int joint : tight) {
            Check.same("the joint " + joint, yard.leaks(0, joint, 1), false);
        }
    }

    private static void leaksRefuse() {
        Staveyard yard = Yards.bent(3);
        Check.refuses("joint 9", yard, Check.NO_ELEMENT, () -> yard.leaks(0, 9, 3));
        Check.refuses("joint -1", yard, Check.NO_ELEMENT, () -> yard.leaks(0, -1, 0));
        Check.refuses("height 3", yard, Check.ARGUMENT, () -> yard.leaks(0, 8, 3));
        Check.refuses("height -1", yard, Check.ARGUMENT, () -> yard.leaks(0, 8, -1));
        Check.refuses("cask 1", yard, Check.INDEX, () -> yard.leaks(1, 9, 3));
    }

    private static void tryAir() {
        Staveyard yard = Yards.cracked();
        Check.same("the first alone", yard.tryAir(0, 0, 1), true);
        Check.same("those between", yard.tryAir(0, 1, 7), false);
        Check.same("the last alone", yard.tryAir(0, 7, 8), true);
        Check.same("all", yard.tryAir(0, 0, 8), true);
        Check.same("four tries", yard.tries(), 4);
        Staveyard end = Yards.bent(3);
        end.drive(0, 0, 10);
        end.drive(0, 1, 10);
        Check.same("a leak at the lower end alone", end.tryAir(0, 3, 4), true);
    }

    private static void tryAirRefuses() {
        Staveyard yard = Yards.cracked();
        int[][] wrong = {{3, 3}, {4, 3}, {-1, 3}, {0, 9}, {8, 8}, {0, 0}, {8, 9}, {Integer.MIN_VALUE, Integer.MAX_VALUE}};
        for (int[] range : wrong) {
            Check.refuses("tryAir " + range[0] + " " + range[1], yard, Check.ARGUMENT, () -> yard.tryAir(0, range[0], range[1]));
        }
        Check.refuses("cask 1", yard, Check.INDEX, () -> yard.tryAir(1, 3, 3));
        Check.same("a range that is refused is no try", yard.tries(), 0);
    }

    private static void findLeak() {
        Staveyard first = Yards.bent(3);
        Check.same("the first", first.findLeak(0), 0);
        Check.same("9, 4, 2, 1", first.tries(), 4);
        Staveyard yard = Yards.bent(0);
        yard.setJig(3);
        yard.replace(0, 5, 35);
        Check.same("the joint 5 alone", yard.findLeak(0), 5);
        Check.same("0 to 9, 0 to 4, 4 to 6, 4 to 5", yard.tries(), 4);
        Check.same("again", yard.findLeak(0), 5);
        Check.same("counted again", yard.tries(), 8);
        yard.replace(0, 3, 33);
        Check.same("the first of two", yard.findLeak(0), 3);
        Check.same("0 to 9, 0 to 4, 0 to 2, 2 to 3", yard.tries(), 12);
        Staveyard last = Yards.bent(0);
        last.setJig(3);
        last.replace(0, 7, 12);
        Check.same("the joint 7", last.findLeak(0), 7);
        Check.same("0 to 9, 0 to 4, 4 to 6, 6 to 7, 7 to 8", last.tries(), 5);
        Staveyard mixed = Yards.cracked();
        Check.same("the first of the first and the last", mixed.findLeak(0), 0);
        Check.refuses("cask 1", mixed, Check.INDEX, () -> mixed.findLeak(1));
        Check.same("no cask is no try", mixed.tries(), 4);
    }

    private static void findNoLeak() {
        Staveyard yard = Yards.whole();
        Check.refuses("none leaks", yard, Check.NO_ELEMENT, () -> yard.findLeak(0));
        Check.same("but it was tried", yard.tries(), 1);
        yard.isSound();
        yard.isWhole(0);
        yard.leaks(0, 0, 0);
        Check.same("looking is no try", yard.tries(), 1);
    }

    private static void isWhole() {
        Staveyard yard = Yards.raised(0);
        Check.same("raised", yard.isWhole(0), false);
        yard.bend(0, 20, 20);
        Check.same("bent", yard.isWhole(0), false);
        Yards.head(yard, 0, 1, 4);
        Check.same("with one head", yard.isWhole(0), false);
        yard.groove(0, 0, 3);
        Check.same("with two grooves", yard.isWhole(0), false);
        Yards.head(yard, 0, 0, 4);
        Check.same("with both heads", yard.isWhole(0), true);
        Staveyard open = Yards.bent(3);
        Yards.head(open, 0, 0, 4);
        Yards.head(open, 0, 1, 4);
        Check.same("that leaks", open.isWhole(0), false);
        for (int hoop : new int[] {0, 1, 4, 5}) {
            open.drive(0, hoop, 10);
        }
        Check.same("that is tight", open.isWhole(0), true);
        open.month(0, 0);
        Check.same("that is loose again", open.isWhole(0), false);
        Staveyard upper = Yards.bent(0);
        Yards.head(upper, 0, 0, 4);
        Check.same("with the upper head alone", upper.isWhole(0), false);
        Staveyard first = Yards.alike();
        first.raise(352, 200, 200, 9);
        first.bend(0, 60, 60);
        Yards.head(first, 0, 0, 4);
        Yards.head(first, 0, 1, 4);
        Check.same("all are tight", first.isWhole(0), true);
        first.setJig(3);
        first.replace(0, 0, 8);
        Check.same("the first joint leaks", first.isWhole(0), false);
        Check.same("alone", first.tryAir(0, 1, 8), false);
        Check.refuses("cask 1", yard, Check.INDEX, () -> yard.isWhole(1));
        Check.refuses("cask -1", yard, Check.INDEX, () -> yard.isWhole(-1));
    }
}
