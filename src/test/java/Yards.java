/** Yards in states that many tests begin with. */
final class Yards {
    private Yards() {
    }

    /** One log of region 2, radius 60, length 9, split: 37 staves of a moisture of 800. */
    static Staveyard green() {
        Staveyard yard = new Staveyard();
        yard.addLog(2, 60, 9);
        yard.split(0);
        return yard;
    }

    static void dry(Staveyard yard, int months, int dry) {
        for (int month = 0; month < months; month++) {
            yard.month(dry, 0);
        }
    }

    /** The same, with a moisture of 176 each. */
    static Staveyard seasoned() {
        Staveyard yard = green();
        dry(yard, 8, 78);
        return yard;
    }

    /** With a cask of 9 staves, 1000 round the bilge, 840 and 830 round the ends. */
    static Staveyard raised(int jig) {
        Staveyard yard = seasoned();
        yard.setJig(jig);
        yard.raise(1000, 840, 830, 9);
        return yard;
    }

    static Staveyard bent(int jig) {
        Staveyard yard = raised(jig);
        yard.bend(0, 20, 20);
        return yard;
    }

    static void head(Staveyard yard, int cask, int end, int depth) {
        yard.fit(cask, end, yard.cutHead(yard.groove(cask, end, depth)));
    }

    /** Bent, with both heads, without a toast. */
    static Staveyard whole() {
        Staveyard yard = bent(0);
        head(yard, 0, 0, 4);
        head(yard, 0, 1, 5);
        return yard;
    }

    /** Whole, with 6421 centilitres. */
    static Staveyard filled() {
        Staveyard yard = whole();
        yard.fill(0);
        return yard;
    }

    /** A log of which one cleft alone gives staves. */
    static void oneCleft(Staveyard yard, int region, int radius, int length, int cleft) {
        int log = yard.addLog(region, radius, length);
        for (int other = 0; other < 8; other++) {
            if (other != cleft) {
                yard.knot(log, other);
            }
        }
        yard.split(log);
    }

    /**
     * Ten staves of ten logs, with a moisture of 176: 0 to 7 of a width of 44, 0 of region 0, the others
     * of region 3; 8 of region 1 and a width of 47; 9 like 8, but of a length of 10.
     */
    static Staveyard alike() {
        Staveyard yard = new Staveyard();
        for (int log = 0; log < 8; log++) {
            oneCleft(yard, log == 0 ? 0 : 3, 20, 9, 4);
        }
        oneCleft(yard, 1, 20, 9, 5);
        oneCleft(yard, 1, 20, 10, 5);
        dry(yard, 8, 78);
        return yard;
    }

    /** The same, with a cask of the staves 0 to 7, bent, the stave 0 in the place 0 being cracked. */
    static Staveyard cracked() {
        Staveyard yard = alike();
        yard.raise(352, 200, 200, 9);
        yard.bend(0, 0, 20);
        return yard;
    }

    /** Nine staves, 0 to 8, of 40, 43, 46, 49, 52, 55, 58, 61 and 41, with a moisture of 176. */
    static Staveyard nine() {
        Staveyard yard = new Staveyard();
        yard.addLog(1, 24, 6);
        yard.split(0);
        dry(yard, 8, 78);
        return yard;
    }
}
