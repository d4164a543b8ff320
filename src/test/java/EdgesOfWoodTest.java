/** The edges that 'Terms' names of logs and of the stack, sentence by sentence. */
final class EdgesOfWoodTest {
    public static void main(String[] args) {
        tenLogs();
        regions();
        eachCleftMayHaveAKnot();
        splitOnce();
        byRisingNumbersFromTheBarkInward();
        asLongAsEightFromTheHeart();
        ofLessThanForty();
        narrowOnesCountNowhere();
        eightyInAll();
        ontoTheStackOnTop();
        moistureAtFirst();
        atLeastAHundredStay();
        ofTheStackAlone();
        threeOnTopLoseTannin();
        atLeastNoTanninStays();
        fewerThanThree();
        atMostNineHundred();
        dryFirstThenRain();
        turning();
        seasonedThen();
        Check.end();
    }

    /** "At most 10 logs are numbered from 0". */
    private static void tenLogs() {
        Staveyard yard = new Staveyard();
        for (int log = 0; log < 10; log++) {
            Check.same("the number", yard.addLog(log % 4, 12 + log, 6 + log % 7), log);
        }
        Check.refuses("the 11th", yard, Check.STATE, () -> yard.addLog(0, 12, 6));
        Check.same("the last one can be split", yard.split(9), 6);
    }

    /** "each of a region, 0 to 3, with a radius in centimetres and a length in decimetres". */
    private static void regions() {
        for (int region = 0; region <= 3; region++) {
            for (int length = 6; length <= 12; length++) {
                Staveyard yard = new Staveyard();
                yard.addLog(region, 24, length);
                yard.split(0);
                Check.same("region", yard.stave(0, 'r'), region);
                Check.same("length", yard.stave(8, 'l'), length);
            }
        }
    }

    /** "8 clefts, 0 to 7, between its rays, each of which may have a knot"; "each cleft without a knot". */
    private static void eachCleftMayHaveAKnot() {
        for (int cleft = 0; cleft < 8; cleft++) {
            Staveyard yard = new Staveyard();
            yard.addLog(0, 24, 6);
            Check.same("there was none", yard.knot(0, cleft), true);
            Check.same("there was one", yard.knot(0, cleft), false);
            Check.same("without the cleft " + cleft, yard.split(0), cleft == 7 ? 7 : 8);
            Check.same("its widest is gone", yard.stave(0, 'w'), cleft == 0 ? 43 : 40);
        }
        Staveyard yard = new Staveyard();
        yard.addLog(0, 60, 6);
        for (int cleft = 0; cleft < 8; cleft++) {
            yard.knot(0, cleft);
        }
        Check.same("knots in all", yard.split(0), 0);
        Check.same("no stave", yard.staves(), 0);
    }

    /** "A log is split once". */
    private static void splitOnce() {
        Staveyard yard = new Staveyard();
        yard.addLog(0, 12, 6);
        yard.addLog(0, 24, 6);
        Check.same("no stave comes of it", yard.split(0), 0);
        Check.refuses("it was split", yard, Check.UNSUPPORTED, () -> yard.split(0));
        Check.refuses("no more knots", yard, Check.UNSUPPORTED, () -> yard.knot(0, 0));
        Check.same("the other one", yard.split(1), 9);
        Check.refuses("that was split, too", yard, Check.UNSUPPORTED, () -> yard.split(1));
    }

    /** "by rising numbers, gives blanks from the bark on inward, at 4 centimetres below it, and each next one 10 further in". */
    private static void byRisingNumbersFromTheBarkInward() {
        Staveyard yard = new Staveyard();
        yard.addLog(0, 47, 6);
        yard.knot(0, 1);
        for (int cleft = 3; cleft < 7; cleft++) {
            yard.knot(0, cleft);
        }
        Check.same("split", yard.split(0), 10);
        int[] widths = {86, 66, 46, 92, 72, 52, 107, 87, 67, 47};
        for (int stave = 0; stave < 10; stave++) {
            Check.same("width " + stave, yard.stave(stave, 'w'), widths[stave]);
        }
    }

    /** "as long as that is at least 8 from the heart": one at 8 would be 37 wide at most, one at 10 is 41 in the cleft 7. */
    private static void asLongAsEightFromTheHeart() {
        int[][] dues = {{12, 0}, {13, 0}, {14, 1}, {22, 1}, {23, 1}, {24, 2}, {32, 2}, {33, 2}, {34, 3}, {42, 3}, {44, 4}, {52, 4}, {54, 5}, {60, 5}};
        for (int[] due : dues) {
            Staveyard yard = new Staveyard();
            Yards.oneCleft(yard, 0, due[0], 6, 7);
            Check.same("staves of a radius of " + due[0], yard.staves(), due[1]);
        }
    }

    /** "One of less than 40 is no stave": 39 is none, 40 is one, wherever they come from. */
    private static void ofLessThanForty() {
        int[][] forties = {{20, 0}, {17, 2}, {14, 4}, {11, 6}};
        for (int[] blank : forties) {
            Staveyard yard = new Staveyard();
            Yards.oneCleft(yard, 0, blank[0] + 4, 6, blank[1]);
            Check.same("40, in the cleft " + blank[1], yard.staves(), 1);
            Check.same("its width", yard.stave(0, 'w'), 40);
        }
        int[][] less = {{18, 1}, {15, 3}, {12, 5}, {9, 7}};
        for (int[] blank : less) {
            Staveyard yard = new Staveyard();
            Yards.oneCleft(yard, 0, blank[0] + 4, 6, blank[1]);
            Check.same("39, in the cleft " + blank[1], yard.staves(), 0);
            Staveyard one = new Staveyard();
            Yards.oneCleft(one, 0, blank[0] + 5, 6, blank[1]);
            Check.same("41, in the cleft " + blank[1], one.stave(0, 'w'), 41);
        }
    }

    /** "has no number and counts nowhere": 33 to 38 of the first log do not; its clefts 6 and 7 give 40 and 43. */
    private static void narrowOnesCountNowhere() {
        Staveyard yard = new Staveyard();
        yard.addLog(2, 15, 6);
        yard.addLog(1, 14, 7);
        Check.same("two of eight", yard.split(0), 2);
        Check.same("one of eight", yard.split(1), 1);
        Check.same("staves", yard.staves(), 3);
        Check.same("stacked", yard.stacked(), 3);
        Check.same("widths", yard.widths(), 40L + 43 + 41);
        Check.same("numbers go on", yard.stave(2, 'g'), 1);
        Check.same("the month counts them alone", yard.month(80, 0), 0);
        Yards.dry(yard, 7, 80);
        Check.same("all seasoned", yard.month(0, 0), 3);
        Check.refuses("no fourth", yard, Check.INDEX, () -> yard.stave(3, 'w'));
    }

    /** "Blanks are numbered from 0 as they come, 80 in all at most". */
    private static void eightyInAll() {
        Staveyard yard = Yards.widest();
        Check.same("80", yard.staves(), 80);
        Check.same("all in the stack", yard.stacked(), 80);
        Check.same("the first", yard.stave(0, 'w'), 130);
        Check.same("the last", yard.stave(79, 'w'), 53);
        Check.same("of the last log", yard.stave(79, 'g'), 9);
        Check.same("the last is on top", yard.inStack(0), 79);
        Check.same("the first is lowest", yard.inStack(79), 0);
        Check.same("sound", yard.isSound(), true);
    }

    /** "each is put onto the stack, on top". */
    private static void ontoTheStackOnTop() {
        Staveyard yard = new Staveyard();
        yard.addLog(0, 14, 6);
        yard.addLog(0, 15, 6);
        yard.split(1);
        yard.split(0);
        Check.same("the later log", yard.inStack(0), 2);
        Check.same("its cleft comes last", yard.inStack(1), 1);
        Check.same("the lowest", yard.inStack(2), 0);
    }

    /** "A stave has a moisture, 800 at first, and tannin, 300 plus 100 times its region". */
    private static void moistureAtFirst() {
        for (int region = 0; region <= 3; region++) {
            Staveyard yard = few(1, region);
            Check.same("moisture", yard.stave(0, 'm'), 800);
            Check.same("tannin", yard.stave(0, 't'), 300 + 100 * region);
        }
    }

    /** Staves of 40, each of a log of its own, not dried. */
    private static Staveyard few(int count, int region) {
        Staveyard yard = new Staveyard();
        for (int log = 0; log < count; log++) {
            Yards.oneStave(yard, region, 17, 6, 2);
        }
        return yard;
    }

    /** The same, dried to a moisture of 100 at least, 800 at most. */
    private static Staveyard fewAt(int count, int moisture) {
        Staveyard yard = few(count, 0);
        for (int left = 800 - moisture; left > 0; left -= 80) {
            yard.month(Math.min(80, left), 0);
        }
        return yard;
    }

    private static int afterDrying(int moisture, int dry) {
        Staveyard yard = fewAt(5, moisture);
        yard.month(dry, 0);
        for (int stave = 0; stave < 5; stave++) {
            Check.same("all alike", yard.stave(stave, 'm'), yard.stave(0, 'm'));
        }
        return yard.stave(0, 'm');
    }

    /** "each stave of the stack loses dry of its moisture, at least 100 staying". */
    private static void atLeastAHundredStay() {
        Check.same("101 less 1", afterDrying(101, 1), 100);
        Check.same("101 less 2", afterDrying(101, 2), 100);
        Check.same("102 less 1", afterDrying(102, 1), 101);
        Check.same("100 less 1", afterDrying(100, 1), 100);
        Check.same("100 less 80", afterDrying(100, 80), 100);
        Check.same("180 less 80", afterDrying(180, 80), 100);
        Check.same("181 less 80", afterDrying(181, 80), 101);
        Check.same("179 less 80", afterDrying(179, 80), 100);
        Check.same("800 less 80", afterDrying(800, 80), 720);
        Check.same("800 less 0", afterDrying(800, 0), 800);
    }

    /** "each stave of the stack": not those of a cask, nor those thrown away. */
    private static void ofTheStackAlone() {
        Staveyard yard = Yards.bent(0);
        yard.replace(0, 5, 35);
        yard.month(20, 30);
        Check.same("in the cask", yard.stave(32, 'm') + " " + yard.stave(32, 't'), "156 500");
        Check.same("come in", yard.stave(35, 'm') + " " + yard.stave(35, 't'), "176 500");
        Check.same("thrown away", yard.stave(2, 'm') + " " + yard.stave(2, 't'), "156 500");
        Check.same("on top of the stack", yard.stave(36, 'm') + " " + yard.stave(36, 't'), "186 470");
        Check.same("second, as 35 was taken", yard.stave(34, 'm') + " " + yard.stave(34, 't'), "156 470");
        Check.same("third", yard.stave(33, 'm') + " " + yard.stave(33, 't'), "156 470");
        Check.same("fourth, as 32 is in the cask", yard.stave(31, 'm') + " " + yard.stave(31, 't'), "156 500");
    }

    /** "then the three on top lose rain of their tannin". */
    private static void threeOnTopLoseTannin() {
        Staveyard yard = few(5, 1);
        yard.month(0, 7);
        Check.same("tannin", tannin(yard), "400 400 393 393 393 ");
        yard.turnStack();
        yard.month(0, 60);
        Check.same("turned", tannin(yard), "340 340 333 393 393 ");
        yard.month(0, 0);
        Check.same("without rain", tannin(yard), "340 340 333 393 393 ");
    }

    private static String tannin(Staveyard yard) {
        StringBuilder text = new StringBuilder();
        for (int stave = 0; stave < yard.staves(); stave++) {
            text.append(yard.stave(stave, 't')).append(' ');
        }
        return text.toString();
    }

    /** "at least 0 staying": 300 less 5 times 60 is just 0; 1 less 2 is 0. */
    private static void atLeastNoTanninStays() {
        Staveyard yard = few(4, 0);
        for (int month = 0; month < 5; month++) {
            yard.month(0, 60);
        }
        Check.same("just none", tannin(yard), "300 0 0 0 ");
        yard.month(0, 60);
        Check.same("no less", tannin(yard), "300 0 0 0 ");
        Staveyard one = few(4, 0);
        for (int month = 0; month < 4; month++) {
            one.month(0, 60);
        }
        one.month(0, 59);
        Check.same("1 is left", tannin(one), "300 1 1 1 ");
        Staveyard two = few(4, 0);
        for (int month = 0; month < 4; month++) {
            two.month(0, 60);
        }
        two.month(0, 59);
        one.month(0, 1);
        Check.same("1 less 1", tannin(one), "300 0 0 0 ");
        two.month(0, 2);
        Check.same("1 less 2", tannin(two), "300 0 0 0 ");
    }

    /** "the three on top", where fewer are; "the one on top", where none is. */
    private static void fewerThanThree() {
        Staveyard none = new Staveyard();
        Check.same("none", none.month(80, 60), 0);
        Staveyard one = few(1, 0);
        one.month(80, 60);
        Check.same("one", one.stave(0, 'm') + " " + tannin(one), "780 240 ");
        Staveyard two = few(2, 0);
        two.month(80, 60);
        Check.same("two", two.stave(0, 'm') + " " + two.stave(1, 'm') + " " + tannin(two), "720 780 240 240 ");
        Staveyard three = few(3, 0);
        three.month(80, 60);
        Check.same("three", three.stave(0, 'm') + " " + three.stave(2, 'm') + " " + tannin(three), "720 780 240 240 240 ");
    }

    private static int afterRain(int moisture, int dry, int rain) {
        Staveyard yard = few(2, 0);
        yard.month(0, 60);
        yard.month(0, 40);
        yard.month(900 - moisture, 0);
        Check.same("before", yard.stave(1, 'm'), moisture);
        yard.month(dry, rain);
        Check.same("the one below", yard.stave(0, 'm'), moisture - 100 - dry);
        return yard.stave(1, 'm');
    }

    /** "then the one on top gains rain of moisture, at most up to 900". */
    private static void atMostNineHundred() {
        Check.same("840 and 60", afterRain(840, 0, 60), 900);
        Check.same("841 and 60", afterRain(841, 0, 60), 900);
        Check.same("840 and 59", afterRain(840, 0, 59), 899);
        Check.same("899 and 1", afterRain(899, 0, 1), 900);
        Check.same("899 and 2", afterRain(899, 0, 2), 900);
        Check.same("900 and 1", afterRain(900, 0, 1), 900);
        Check.same("900 and 60", afterRain(900, 0, 60), 900);
        Check.same("900 and 0", afterRain(900, 0, 0), 900);
    }

    /** First "loses dry", then "gains rain". */
    private static void dryFirstThenRain() {
        Check.same("900 less 60 and 60", afterRain(900, 60, 60), 900);
        Check.same("900 less 70 and 60", afterRain(900, 70, 60), 890);
        Staveyard yard = fewAt(1, 100);
        yard.month(80, 60);
        Check.same("100, of which 80 are not lost, and 60", yard.stave(0, 'm'), 160);
    }

    /** "Turning a stack makes the lowest one the topmost, and so on"; an empty one too. */
    private static void turning() {
        Check.same("none", new Staveyard().turnStack(), 0);
        for (int count = 1; count <= 10; count++) {
            Staveyard yard = few(count, 0);
            Check.same("how many", yard.turnStack(), count);
            for (int index = 0; index < count; index++) {
                Check.same("turned, of " + count, yard.inStack(index), index);
            }
            yard.turnStack();
            for (int index = 0; index < count; index++) {
                Check.same("turned back, of " + count, yard.inStack(index), count - 1 - index);
            }
        }
        Staveyard yard = Yards.widest();
        Check.same("80", yard.turnStack(), 80);
        Check.same("the first of 80", yard.inStack(0), 0);
        Check.same("the last of 80", yard.inStack(79), 79);
        Staveyard used = Yards.forties(8);
        used.raise(320, 200, 200, 6);
        Check.same("all are in a cask", used.turnStack(), 0);
    }

    /** month: "how many staves of the stack are seasoned then", at 250 and 251. */
    private static void seasonedThen() {
        Check.same("252 less 1", fewAt(5, 252).month(1, 0), 0);
        Check.same("251 less 1", fewAt(5, 251).month(1, 0), 5);
        Check.same("250", fewAt(5, 250).month(0, 0), 5);
        Check.same("250 and 1 on top", fewAt(5, 250).month(0, 1), 4);
        Check.same("251 less 2 and 1 on top", fewAt(5, 251).month(2, 1), 5);
        Check.same("251 less 1 and 1 on top", fewAt(5, 251).month(1, 1), 4);
        Check.same("without those of a cask", Yards.raised(0).month(0, 0), 28);
    }
}
