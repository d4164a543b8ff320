/** Yards in states that many tests begin with. */
final class Yards {
    private Yards() {
    }

    /** One log of region 2, radius 60, length 9, split: 37 staves of a moisture of 800. */
    static Staveyard green() {
        Staveyard yard = new Staveyard();
        yard.addLog(2, 60, 9);
        yard.split(0);
        return yard;
    }

    static void dry(Staveyard yard, int months, int dry) {
        for (int month = 0; month < months; month++) {
            yard.month(dry, 0);
        }
    }

    /** The same, with a moisture of 176 each. */
    static Staveyard seasoned() {
        Staveyard yard = green();
        dry(yard, 8, 78);
        return yard;
    }

    /** With a cask of 9 staves, 1000 round the bilge, 840 and 830 round the ends. */
    static Staveyard raised(int jig) {
        Staveyard yard = seasoned();
        yard.setJig(jig);
        yard.raise(1000, 840, 830, 9);
        return yard;
    }

    static Staveyard bent(int jig) {
        Staveyard yard = raised(jig);
        yard.bend(0, 20, 20);
        return yard;
    }

    static void head(Staveyard yard, int cask, int end, int depth) {
        yard.fit(cask, end, yard.cutHead(yard.groove(cask, end, depth)));
    }

    /** Bent, with both heads, without a toast. */
    static Staveyard whole() {
        Staveyard yard = bent(0);
        head(yard, 0, 0, 4);
        head(yard, 0, 1, 5);
        return yard;
    }

    /** Whole, with 6421 centilitres. */
    static Staveyard filled() {
        Staveyard yard = whole();
        yard.fill(0);
        return yard;
    }
}
