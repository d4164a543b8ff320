/** Yards in states that many tests begin with. */
final class Yards {
    private Yards() {
    }

    /** One log of region 2, radius 60, length 9, split: 37 staves of a moisture of 800. */
    static Staveyard green() {
        Staveyard yard = new Staveyard();
        yard.addLog(2, 60, 9);
        yard.split(0);
        return yard;
    }

    static void dry(Staveyard yard, int months, int dry) {
        for (int month = 0; month < months; month++) {
            yard.month(dry, 0);
        }
    }

    /** The same, with a moisture of 176 each. */
    static Staveyard seasoned() {
        Staveyard yard = green();
        dry(yard, 8, 78);
        return yard;
    }

    /** With a cask of 9 staves, 1000 round the bilge, 840 and 830 round the ends. */
    static Staveyard raised(int jig) {
        Staveyard yard = seasoned();
        yard.setJig(jig);
        yard.raise(1000, 840, 830, 9);
        return yard;
    }

    static Staveyard bent(int jig) {
        Staveyard yard = raised(jig);
        yard.bend(0, 20, 20);
        return yard;
    }

    static void head(Staveyard yard, int cask, int end, int depth) {
        yard.fit(cask, end, yard.cutHead(yard.groove(cask, end, depth)));
    }

    /** Bent, with both heads, without a toast. */
    static Staveyard whole() {
        Staveyard yard = bent(0);
        head(yard, 0, 0, 4);
        head(yard, 0, 1, 5);
        return yard;
    }

    /** Whole, with 6421 centilitres. */
    static Staveyard filled() {
        Staveyard yard = whole();
        yard.fill(0);
        return yard;
    }

    /** A log of which one cleft alone gives staves. */
    static void oneCleft(Staveyard yard, int region, int radius, int length, int cleft) {
        int log = yard.addLog(region, radius, length);
        for (int other = 0; other < 8; other++) {
            if (other != cleft) {
                yard.knot(log, other);
            }
        }
        yard.split(log);
    }

    /**
     * Ten staves of ten logs, with a moisture of 176: 0 to 7 of a width of 44, 0 of region 0, the others
     * of region 3; 8 of region 1 and a width of 47; 9 like 8, but of a length of 10.
     */
    static Staveyard alike() {
        Staveyard yard = new Staveyard();
        for (int log = 0; log < 8; log++) {
            oneCleft(yard, log == 0 ? 0 : 3, 20, 9, 4);
        }
        oneCleft(yard, 1, 20, 9, 5);
        oneCleft(yard, 1, 20, 10, 5);
        dry(yard, 8, 78);
        return yard;
    }

    /** The same, with a cask of the staves 0 to 7, bent, the stave 0 in the place 0 being cracked. */
    static Staveyard cracked() {
        Staveyard yard = alike();
        yard.raise(352, 200, 200, 9);
        yard.bend(0, 0, 20);
        return yard;
    }

    /** Nine staves, 0 to 8, of 40, 43, 46, 49, 52, 55, 58, 61 and 41, with a moisture of 176. */
    static Staveyard nine() {
        Staveyard yard = new Staveyard();
        yard.addLog(1, 24, 6);
        yard.split(0);
        dry(yard, 8, 78);
        return yard;
    }

    /** Two casks like that of raised, of one stack. */
    static Staveyard twoRaised() {
        Staveyard yard = seasoned();
        yard.raise(1000, 840, 830, 9);
        yard.raise(1000, 840, 830, 9);
        return yard;
    }

    static Staveyard twoBent() {
        Staveyard yard = twoRaised();
        yard.bend(0, 20, 20);
        yard.bend(1, 20, 20);
        return yard;
    }

    static Staveyard twoWhole() {
        Staveyard yard = twoBent();
        for (int cask = 0; cask < 2; cask++) {
            head(yard, cask, 0, 4);
            head(yard, cask, 1, 5);
        }
        return yard;
    }

    static Staveyard twoFilled() {
        Staveyard yard = twoWhole();
        yard.fill(0);
        yard.fill(1);
        return yard;
    }

    /** Staves of 40 alone, as many as told, 10 at most, of a length of 6 and a moisture of 176. */
    static Staveyard forties(int count) {
        Staveyard yard = new Staveyard();
        for (int log = 0; log < count; log++) {
            oneCleft(yard, 0, 24, 6, 0);
        }
        dry(yard, 8, 78);
        return yard;
    }

    /** 80 staves of a length of 9 and a moisture of 176, the widest that can be: 10 of 133, 6 of 130, 10 of 113, 6 of 110 and less. */
    static Staveyard widest() {
        Staveyard yard = new Staveyard();
        for (int log = 0; log < 10; log++) {
            yard.addLog(1, 60, 9);
            for (int cleft = 0; cleft < (log < 6 ? 6 : 7); cleft++) {
                yard.knot(log, cleft);
            }
            yard.split(log);
        }
        dry(yard, 8, 78);
        return yard;
    }

    /** A stave alone of its log: a blank so far from the heart, in centimetres, 8 to 17, of this cleft. */
    static void oneStave(Staveyard yard, int region, int away, int length, int cleft) {
        oneCleft(yard, region, away + 4, length, cleft);
    }

    /** All 80 staves in ten casks of eight, each of a log of its own: 41, 43, 46, 49, 52, 55, 58 and 61. */
    static Staveyard tenCasks() {
        Staveyard yard = new Staveyard();
        for (int log = 0; log < 10; log++) {
            yard.addLog(log % 4, 24, 6 + log % 7);
            yard.knot(log, 0);
            yard.split(log);
            dry(yard, 8, 78);
            yard.raise(405, 300, 301, 6 + log % 7);
        }
        return yard;
    }
}
