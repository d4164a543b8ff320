/** Promises 8 to 11: stacked, inStack, turnStack, month. */
final class StackTest {
    public static void main(String[] args) {
        stacked();
        inStack();
        turnStack();
        monthDries();
        monthRains();
        monthWithFewStaves();
        monthLoosensHoops();
        monthRefuses();
        Check.end();
    }

    private static Staveyard four() {
        Staveyard yard = new Staveyard();
        yard.addLog(0, 20, 6);
        yard.knot(0, 3);
        yard.split(0);
        return yard;
    }

    private static String stackOf(Staveyard yard) {
        StringBuilder text = new StringBuilder();
        for (int index = 0; index < yard.stacked(); index++) {
            text.append(yard.inStack(index)).append(' ');
        }
        return text.toString();
    }

    private static void stacked() {
        Check.same("empty", new Staveyard().stacked(), 0);
        Check.same("four", four().stacked(), 4);
        Check.same("without those of the cask", Yards.raised(0).stacked(), 28);
        Staveyard yard = Yards.bent(0);
        yard.replace(0, 5, 35);
        Check.same("without one that came in", yard.stacked(), 27);
    }

    private static void inStack() {
        Staveyard yard = four();
        Check.same("the latest on top", stackOf(yard), "3 2 1 0 ");
        Check.refuses("as low as there are", yard, Check.NO_ELEMENT, () -> yard.inStack(4));
        Check.refuses("above the top", yard, Check.NO_ELEMENT, () -> yard.inStack(-1));
        Staveyard empty = new Staveyard();
        Check.refuses("of none", empty, Check.NO_ELEMENT, () -> empty.inStack(0));
        Check.same("the order stays as staves are taken",
            stackOf(Yards.raised(0)),
            "36 35 34 33 31 30 29 28 26 25 24 23 21 20 19 18 16 15 14 13 12 11 10 9 8 7 6 3 ");
    }

    private static void turnStack() {
        Staveyard yard = four();
        Check.same("turned", yard.turnStack(), 4);
        Check.same("the lowest is topmost", stackOf(yard), "0 1 2 3 ");
        yard.addLog(0, 20, 6);
        yard.knot(1, 4);
        yard.knot(1, 5);
        yard.knot(1, 6);
        yard.split(1);
        Check.same("new ones come on top", stackOf(yard), "5 4 0 1 2 3 ");
        yard.addLog(0, 20, 6);
        for (int cleft = 3; cleft < 7; cleft++) {
            yard.knot(2, cleft);
        }
        yard.split(2);
        Check.same("an odd number", yard.turnStack(), 7);
        Check.same("turned again", stackOf(yard), "3 2 1 0 4 5 6 ");
        Check.same("none to turn", new Staveyard().turnStack(), 0);
    }

    private static void monthDries() {
        Staveyard yard = four();
        Check.same("none is seasoned", yard.month(80, 0), 0);
        Check.same("drier", yard.stave(0, 'm'), 720);
        Yards.dry(yard, 5, 80);
        Check.same("six months", yard.stave(0, 'm'), 320);
        Check.same("at 251 none is seasoned", yard.month(69, 0), 0);
        Check.same("at 250 all are", yard.month(1, 0), 4);
        yard.month(80, 0);
        yard.month(69, 0);
        Check.same("just above the least", yard.stave(3, 'm'), 101);
        yard.month(2, 0);
        Check.same("the least stays", yard.stave(3, 'm'), 100);
        yard.month(80, 0);
        Check.same("the least stays again", yard.stave(0, 'm'), 100);
        Check.same("no tannin is lost", yard.stave(3, 't'), 300);
    }

    private static void monthRains() {
        Staveyard yard = four();
        yard.month(10, 60);
        Check.same("the top gains", yard.stave(3, 'm'), 850);
        Check.same("the second does not", yard.stave(2, 'm'), 790);
        Check.same("tannin of the top", yard.stave(3, 't'), 240);
        Check.same("tannin of the third", yard.stave(1, 't'), 240);
        Check.same("tannin of the fourth", yard.stave(0, 't'), 300);
        yard.month(0, 50);
        Check.same("just the most", yard.stave(3, 'm'), 900);
        yard.month(0, 1);
        Check.same("at most", yard.stave(3, 'm'), 900);
        yard.month(5, 60);
        Check.same("first dried, then wet", yard.stave(3, 'm'), 900);
        for (int month = 0; month < 3; month++) {
            yard.month(0, 40);
        }
        Check.same("little tannin", yard.stave(3, 't'), 9);
        yard.month(0, 10);
        Check.same("no less than none", yard.stave(3, 't'), 0);
        yard.turnStack();
        yard.month(0, 7);
        Check.same("the new top", yard.stave(0, 't'), 293);
        Check.same("the new fourth", yard.stave(3, 't'), 0);
        Check.same("the new top is wetter", yard.stave(0, 'm'), 792);
        Staveyard dry = four();
        Yards.dry(dry, 7, 80);
        Check.same("rain makes the top unseasoned", dry.month(0, 11), 3);
        Check.same("the top", dry.stave(3, 'm'), 251);
    }

    private static void monthWithFewStaves() {
        Staveyard yard = new Staveyard();
        Check.same("no staves", yard.month(80, 60), 0);
        yard.addLog(1, 20, 6);
        for (int cleft = 3; cleft < 7; cleft++) {
            yard.knot(0, cleft);
        }
        yard.split(0);
        yard.month(80, 60);
        Check.same("one stave is on top", yard.stave(0, 'm'), 780);
        Check.same("one stave is leached once", yard.stave(0, 't'), 340);
    }

    private static void monthLoosensHoops() {
        Staveyard yard = Yards.whole();
        yard.drive(0, 0, 1);
        yard.drive(0, 5, 20);
        yard.month(0, 0);
        Check.same("looser by 1", yard.tightness(0, 0), 1);
        Check.same("looser by 1, too", yard.tightness(0, 5), 35);
        Check.same("no looser than 0", yard.tightness(0, 1), 0);
        yard.month(0, 0);
        yard.month(0, 0);
        Check.same("at least 0", yard.tightness(0, 0), 0);
        yard.fill(0);
        yard.month(0, 0);
        Check.same("full casks keep their hoops", yard.tightness(0, 5), 33);
        yard.pour(0, 6421);
        yard.month(0, 0);
        Check.same("empty again", yard.tightness(0, 5), 32);
        Check.same("staves of a cask do not dry", yard.stave(yard.at(0, 0), 'm'), 156);
    }

    private static void monthRefuses() {
        Staveyard yard = Yards.bent(0);
        yard.drive(0, 2, 5);
        int[][] wrong = {{-1, 0}, {81, 0}, {0, -1}, {0, 61}, {Integer.MIN_VALUE, 0}, {0, Integer.MAX_VALUE}};
        for (int[] month : wrong) {
            Check.refuses("month " + month[0] + " " + month[1], yard, Check.ARGUMENT, () -> yard.month(month[0], month[1]));
        }
        Check.same("both at most, top wet", yard.month(80, 60), 28);
    }
}
