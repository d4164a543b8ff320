/** Promises 1 to 7: a new object, addLog, knot, split, staves, stave, isWhere. */
final class LogsTest {
    public static void main(String[] args) {
        newObject();
        addLog();
        knot();
        split();
        splitNarrow();
        splitTooMany();
        stave();
        isWhere();
        Check.end();
    }

    private static void newObject() {
        Staveyard yard = new Staveyard();
        Check.same("staves", yard.staves(), 0);
        Check.same("stacked", yard.stacked(), 0);
        Check.same("tries", yard.tries(), 0);
        Check.same("widths", yard.widths(), 0L);
        Check.same("emptyVat", yard.emptyVat(), 0);
        Check.same("turnStack", yard.turnStack(), 0);
        Check.same("month", yard.month(10, 10), 0);
        Check.same("setJig", yard.setJig(2), 0);
        Check.same("isSound", yard.isSound(), true);
        for (char what : "vtmrf".toCharArray()) {
            Check.same("vat " + what, yard.vat(what), 0);
        }
        Check.refuses("split", yard, Check.INDEX, () -> yard.split(0));
        Check.refuses("size", yard, Check.INDEX, () -> yard.size(0));
        Check.refuses("stave", yard, Check.INDEX, () -> yard.stave(0, 'w'));
    }

    private static void addLog() {
        Staveyard yard = new Staveyard();
        Check.same("first log", yard.addLog(0, 12, 6), 0);
        Check.same("second log", yard.addLog(3, 60, 12), 1);
        int[][] wrong = {{-1, 30, 8}, {4, 30, 8}, {0, 11, 8}, {0, 61, 8}, {0, 30, 5}, {0, 30, 13},
            {Integer.MIN_VALUE, 30, 8}, {0, Integer.MAX_VALUE, 8}, {0, 30, Integer.MIN_VALUE}};
        for (int[] log : wrong) {
            Check.refuses("addLog " + log[0] + " " + log[1] + " " + log[2], yard, Check.ARGUMENT, () -> yard.addLog(log[0], log[1], log[2]));
        }
        for (int log = 2; log < 10; log++) {
            Check.same("log", yard.addLog(1, 20, 7), log);
        }
        Check.refuses("an 11th log", yard, Check.STATE, () -> yard.addLog(1, 20, 7));
        Check.refuses("an 11th log of no region", yard, Check.ARGUMENT, () -> yard.addLog(4, 20, 7));
        Check.same("the last log", yard.knot(9, 0), true);
    }

    private static void knot() {
        Staveyard yard = new Staveyard();
        Check.refuses("knot of no log", yard, Check.INDEX, () -> yard.knot(0, 8));
        yard.addLog(0, 20, 6);
        yard.addLog(0, 20, 6);
        Check.same("knot", yard.knot(0, 7), true);
        Check.same("the same knot", yard.knot(0, 7), false);
        Check.same("another knot", yard.knot(0, 0), true);
        Check.same("a knot of another log", yard.knot(1, 7), true);
        Check.refuses("cleft 8", yard, Check.ARGUMENT, () -> yard.knot(0, 8));
        Check.refuses("cleft -1", yard, Check.ARGUMENT, () -> yard.knot(0, -1));
        Check.refuses("log -1", yard, Check.INDEX, () -> yard.knot(-1, 0));
        Check.refuses("log 2", yard, Check.INDEX, () -> yard.knot(2, 0));
        yard.split(0);
        Check.refuses("knot of a split log", yard, Check.UNSUPPORTED, () -> yard.knot(0, 1));
        Check.refuses("no cleft of a split log", yard, Check.ARGUMENT, () -> yard.knot(0, 8));
    }

    /** A radius of 60 has blanks at 56, 46, 36, 26, 16 from the heart; the last is too narrow in clefts 0 to 2. */
    private static void split() {
        Staveyard yard = new Staveyard();
        yard.addLog(2, 60, 9);
        Check.same("split", yard.split(0), 37);
        Check.same("staves", yard.staves(), 37);
        Check.same("stacked", yard.stacked(), 37);
        int[] widths = {112, 92, 72, 52, 115, 95, 75, 55, 118, 98, 78, 58, 121, 101, 81, 61, 41};
        for (int stave = 0; stave < widths.length; stave++) {
            Check.same("width of " + stave, yard.stave(stave, 'w'), widths[stave]);
        }
        for (int stave = 0; stave < 37; stave++) {
            Check.same("in the stack, from below", yard.inStack(36 - stave), stave);
        }
        Check.refuses("split twice", yard, Check.UNSUPPORTED, () -> yard.split(0));
        Check.refuses("split no log", yard, Check.INDEX, () -> yard.split(1));
        Check.refuses("split log -1", yard, Check.INDEX, () -> yard.split(-1));
    }

    private static void splitNarrow() {
        Staveyard yard = new Staveyard();
        yard.addLog(0, 12, 6);
        Check.same("8 from the heart, none is wide enough", yard.split(0), 0);
        Check.refuses("split twice without staves", yard, Check.UNSUPPORTED, () -> yard.split(0));
        yard.addLog(0, 20, 6);
        yard.knot(1, 3);
        Check.same("16 from the heart, clefts 4 to 7", yard.split(1), 4);
        Check.same("the first width", yard.stave(0, 'w'), 44);
        Check.same("the last width", yard.stave(3, 'w'), 53);
        yard.addLog(1, 22, 6);
        Check.same("18 and 8 from the heart, clefts 2 to 7", yard.split(2), 6);
        Check.same("width", yard.stave(4, 'w'), 42);
        yard.addLog(1, 24, 6);
        Check.same("20 from the heart is just wide enough, and 10 in cleft 7", yard.split(3), 9);
        Check.same("the last is from further in", yard.stave(18, 'w'), 41);
        Check.same("the least width", yard.stave(10, 'w'), 40);
        Check.same("log", yard.stave(10, 'g'), 3);
        yard.addLog(1, 24, 6);
        for (int cleft = 0; cleft < 8; cleft++) {
            yard.knot(4, cleft);
        }
        Check.same("knots all over", yard.split(4), 0);
        Check.same("staves", yard.staves(), 19);
    }

    private static void splitTooMany() {
        Staveyard yard = new Staveyard();
        yard.addLog(0, 60, 6);
        yard.addLog(0, 60, 6);
        yard.addLog(0, 24, 6);
        yard.addLog(0, 20, 6);
        yard.addLog(0, 12, 6);
        yard.split(0);
        yard.split(1);
        Check.same("staves", yard.staves(), 74);
        Check.refuses("9 more would be 83", yard, Check.STATE, () -> yard.split(2));
        Check.same("the log was not split", yard.knot(2, 0), true);
        yard.knot(2, 7);
        Check.same("6 more are 80", yard.split(2), 6);
        Check.refuses("one more would be too many", yard, Check.STATE, () -> yard.split(3));
        Check.same("none more is fine", yard.split(4), 0);
        Check.refuses("a split log at 80", yard, Check.UNSUPPORTED, () -> yard.split(0));
        Check.same("staves", yard.staves(), 80);
    }

    private static void stave() {
        Staveyard yard = new Staveyard();
        yard.addLog(3, 24, 12);
        yard.addLog(1, 25, 6);
        yard.split(1);
        yard.split(0);
        Check.same("width", yard.stave(1, 'w'), 45);
        Check.same("moisture", yard.stave(1, 'm'), 800);
        Check.same("tannin", yard.stave(1, 't'), 400);
        Check.same("tannin of region 3", yard.stave(10, 't'), 600);
        Check.same("length", yard.stave(1, 'l'), 6);
        Check.same("length of the other", yard.stave(10, 'l'), 12);
        Check.same("region", yard.stave(1, 'r'), 1);
        Check.same("log", yard.stave(1, 'g'), 1);
        Check.same("log of the other", yard.stave(18, 'g'), 0);
        Check.refuses("no such thing", yard, Check.ARGUMENT, () -> yard.stave(0, 'x'));
        Check.refuses("no such thing either", yard, Check.ARGUMENT, () -> yard.stave(0, (char) 0));
        Check.refuses("stave 19", yard, Check.INDEX, () -> yard.stave(19, 'x'));
        Check.refuses("stave -1", yard, Check.INDEX, () -> yard.stave(-1, 'w'));
    }

    private static void isWhere() {
        Staveyard yard = Yards.bent(0);
        Check.same("in a cask", yard.isWhere(2), 'c');
        Check.same("in the stack", yard.isWhere(35), 's');
        yard.replace(0, 5, 35);
        Check.same("thrown away", yard.isWhere(2), 'x');
        Check.same("in the cask now", yard.isWhere(35), 'c');
        Check.refuses("stave 37", yard, Check.INDEX, () -> yard.isWhere(37));
        Check.refuses("stave -1", yard, Check.INDEX, () -> yard.isWhere(-1));
    }
}
