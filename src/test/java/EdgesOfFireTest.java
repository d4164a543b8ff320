/** The edges that 'Terms' names of bending, toasting and heads, sentence by sentence. */
final class EdgesOfFireTest {
    public static void main(String[] args) {
        suppleByMoisture();
        suppleByFireAndSteam();
        needsAFifthOfTheBow();
        needsByRegion();
        crackedOnesLoseAndGainToo();
        atLeastFiftyStay();
        gainsSteam();
        heatOfLayerZero();
        heatOfFurtherLayers();
        oneMoreForEachFifty();
        heatIsTwentyAsToastingBegins();
        toastsAddUp();
        charFromForty();
        charOfEachLayer();
        shavingTakesLayersOff();
        shavingBareOnes();
        diameterIsCut();
        grooveBetweenThreeAndEight();
        deeperGrooveThrowsTheHeadAway();
        headFitsIfJustSo();
        headIsUsedThen();
        fortyHeads();
        Check.end();
    }

    /** Eight staves of 40, raised to 320 with these ends. */
    private static Staveyard cask(int region, int moisture, int upper, int lower) {
        Staveyard yard = new Staveyard();
        for (int log = 0; log < 8; log++) {
            Yards.oneStave(yard, region, 17, 6, 2);
        }
        for (int left = 800 - moisture; left > 0; left -= 80) {
            yard.month(Math.min(80, left), 0);
        }
        yard.raise(320, upper, lower, 6);
        return yard;
    }

    private static void bends(String what, int cracks, Staveyard yard, int fire, int steam) {
        Check.same(what, yard.bend(0, fire, steam), cracks);
        for (int place = 0; place < 8; place++) {
            Check.same(what + ", place " + place, yard.isCracked(0, place), cracks > 0);
        }
    }

    /** "A stave is supple by a tenth of its moisture, cut": it needs 44, of which fire and steam give 26 or 27. */
    private static void suppleByMoisture() {
        bends("180 is 18, and 26", 0, cask(3, 180, 300, 300), 13, 0);
        bends("179 is 17, and 26", 8, cask(3, 179, 300, 300), 13, 0);
        bends("179 is 17, and 27", 0, cask(3, 179, 300, 300), 0, 9);
        bends("170 is 17, and 27", 0, cask(3, 170, 300, 300), 0, 9);
        bends("169 is 16, and 27", 8, cask(3, 169, 300, 300), 0, 9);
        bends("100 is 10, and 34", 0, cask(3, 100, 300, 300), 17, 0);
        bends("250 is 25, and 19", 0, cask(3, 250, 300, 300), 2, 5);
        bends("250 is 25, and 18", 8, cask(3, 250, 300, 300), 0, 6);
    }

    /** "plus 2 for each minute of fire and 3 for each of steam". */
    private static void suppleByFireAndSteam() {
        bends("27 of fire and steam", 0, cask(3, 170, 300, 300), 12, 1);
        bends("26 of fire", 8, cask(3, 170, 300, 300), 13, 0);
        bends("26 of both", 8, cask(3, 170, 300, 300), 10, 2);
        bends("28 of fire", 0, cask(3, 170, 300, 300), 14, 0);
        bends("27 of steam", 0, cask(3, 170, 300, 300), 0, 9);
        bends("24 of steam", 8, cask(3, 170, 300, 300), 0, 8);
        bends("neither", 8, cask(3, 250, 300, 300), 0, 0);
    }

    /** "It needs 40, plus a fifth, cut, of what the bilge is more than the lesser end". */
    private static void needsAFifthOfTheBow() {
        bends("24 more are 4", 0, cask(3, 170, 296, 319), 0, 9);
        bends("25 more are 5", 8, cask(3, 170, 295, 319), 0, 9);
        bends("24 more at the lower end are 4", 0, cask(3, 170, 319, 296), 0, 9);
        bends("25 more at the lower end are 5", 8, cask(3, 170, 319, 295), 0, 9);
        bends("20 more are 4", 8, cask(3, 170, 300, 310), 13, 0);
        bends("19 more are 3", 0, cask(3, 170, 301, 310), 13, 0);
        bends("1 more is none: 40", 0, cask(3, 170, 319, 319), 10, 1);
        bends("1 more is none, 39 of 40", 8, cask(3, 170, 319, 319), 11, 0);
        bends("160 more are 32: 72", 0, cask(3, 170, 160, 160), 11, 11);
        bends("160 more are 32, 71 of 72", 8, cask(3, 170, 160, 160), 0, 18);
    }

    /** "plus 10 times what its region is less than 3": with 4 for the bow, 74, 64, 54 and 44 in all, of which 17 are moisture. */
    private static void needsByRegion() {
        int[][] enough = {{0, 19}, {1, 15}, {2, 11}, {0, 9}};
        int[][] less = {{1, 18}, {2, 14}, {0, 12}, {13, 0}};
        for (int region = 0; region <= 3; region++) {
            bends("enough for region " + region, 0, cask(region, 170, 300, 300), enough[region][0], enough[region][1]);
            bends("one less for region " + region, 8, cask(region, 170, 300, 300), less[region][0], less[region][1]);
        }
    }

    /** "It cracks if it has less. Then it loses 2 of moisture for each minute of fire" and gains: whether it cracks or not. */
    private static void crackedOnesLoseAndGainToo() {
        Staveyard yard = cask(0, 170, 300, 300);
        bends("cracked", 8, yard, 3, 4);
        Check.same("170 less 6 and 4", yard.stave(0, 'm'), 168);
        Staveyard mixed = Yards.cracked();
        Check.same("the one that cracked", mixed.stave(0, 'm'), 196);
        Check.same("the next one", mixed.stave(1, 'm'), 196);
        Check.same("of the stack", mixed.stave(8, 'm'), 176);
    }

    private static int bentAt(int moisture, int fire, int steam) {
        Staveyard yard = cask(3, moisture, 300, 300);
        yard.bend(0, fire, steam);
        return yard.stave(7, 'm');
    }

    /** "loses 2 of moisture for each minute of fire, at least 50 staying". */
    private static void atLeastFiftyStay() {
        Check.same("100 less 48", bentAt(100, 24, 0), 52);
        Check.same("100 less 50", bentAt(100, 25, 0), 50);
        Check.same("100 less 52", bentAt(100, 26, 0), 50);
        Check.same("100 less 120", bentAt(100, 60, 0), 50);
        Check.same("101 less 48", bentAt(101, 24, 0), 53);
        Check.same("101 less 50", bentAt(101, 25, 0), 51);
        Check.same("101 less 52", bentAt(101, 26, 0), 50);
        Check.same("170 less 120", bentAt(170, 60, 0), 50);
        Check.same("171 less 120", bentAt(171, 60, 0), 51);
        Check.same("169 less 120", bentAt(169, 60, 0), 50);
        Check.same("250 less 120", bentAt(250, 60, 0), 130);
    }

    /** "and gains 1 for each of steam", after the fire. 900 can't be met: seasoned staves have 250 at most, and 60 more then. */
    private static void gainsSteam() {
        Check.same("100 less 52, but 50, and 5", bentAt(100, 26, 5), 55);
        Check.same("100 less 120, but 50, and 60", bentAt(100, 60, 60), 110);
        Check.same("250 and 60", bentAt(250, 0, 60), 310);
        Check.same("250 and 1", bentAt(250, 0, 1), 251);
        Check.same("neither", bentAt(250, 0, 0), 250);
    }

    private static Staveyard bent() {
        Staveyard yard = cask(3, 170, 300, 300);
        yard.bend(0, 60, 60);
        return yard;
    }

    private static String toasted(int heat, int minutes) {
        Staveyard yard = bent();
        yard.toast(0, heat, minutes);
        String first = layers(yard, 0);
        for (int place = 1; place < 8; place++) {
            Check.same("all staves alike", layers(yard, place), first);
        }
        return first;
    }

    private static String layers(Staveyard yard, int place) {
        StringBuilder text = new StringBuilder();
        for (int layer = 0; layer < 6; layer++) {
            text.append(yard.toastAt(0, place, layer)).append(' ');
        }
        return text.toString();
    }

    /** "each minute, the layer 0 has the heat of the fire"; "each layer of 150 or more gains 1". */
    private static void heatOfLayerZero() {
        Check.same("149", toasted(149, 1), "0 0 0 0 0 0 ");
        Check.same("150", toasted(150, 1), "1 0 0 0 0 0 ");
        Check.same("149, long", toasted(149, 60), "0 0 0 0 0 0 ");
        Check.same("100", toasted(100, 60), "0 0 0 0 0 0 ");
        Check.same("150, twice", toasted(150, 2), "2 0 0 0 0 0 ");
    }

    /** "each further one, in this order, becomes hotter by a third, cut, of what the one ahead is more". */
    private static void heatOfFurtherLayers() {
        Check.same("97 and 149 in the layer 1", toasted(253, 2), "6 0 0 0 0 0 ");
        Check.same("98 and 150 in the layer 1", toasted(254, 2), "6 1 0 0 0 0 ");
        Check.same("149 in the layer 2 at last", toasted(153, 14).split(" ")[2], "0");
        Check.same("150 in the layer 2 at last", toasted(154, 14).split(" ")[2], "1");
        Check.same("149 in the layer 3 at last", toasted(155, 18).split(" ")[3], "0");
        Check.same("150 in the layer 3 at last", toasted(156, 18).split(" ")[3], "1");
        Check.same("149 in the layer 4 at last", toasted(157, 21).split(" ")[4], "0");
        Check.same("150 in the layer 4 at last", toasted(158, 21).split(" ")[4], "1");
        Check.same("149 in the layer 5 at last", toasted(159, 23).split(" ")[5], "0");
        Check.same("150 in the layer 5 at last", toasted(160, 23).split(" ")[5], "1");
    }

    /** "and 1 for each 50 beyond 150". */
    private static void oneMoreForEachFifty() {
        int[][] dues = {{199, 1}, {200, 2}, {249, 2}, {250, 3}, {299, 3}, {300, 4}, {349, 4}, {350, 5}, {399, 5}, {400, 6}};
        for (int[] due : dues) {
            Check.same("heat " + due[0], toasted(due[0], 1), due[1] + " 0 0 0 0 0 ");
        }
        Check.same("199 in the layer 1", toasted(343, 2), "8 1 0 0 0 0 ");
        Check.same("200 in the layer 1", toasted(344, 2), "8 2 0 0 0 0 ");
        Check.same("199 in the layer 2", toasted(266, 6), "18 8 3 0 0 0 ");
        Check.same("200 in the layer 2", toasted(267, 6), "18 8 4 0 0 0 ");
        Check.same("199 in the layer 5", toasted(276, 13), "39 31 22 14 9 4 ");
        Check.same("200 in the layer 5", toasted(277, 13), "39 31 22 14 9 5 ");
    }

    /** "Their heat is 20 as toasting begins": twice one minute at 254 is not two minutes. */
    private static void heatIsTwentyAsToastingBegins() {
        Staveyard yard = bent();
        yard.toast(0, 254, 1);
        yard.toast(0, 254, 1);
        Check.same("the layer 1 had 98 twice", layers(yard, 0), "6 0 0 0 0 0 ");
        yard.toast(0, 254, 2);
        Check.same("the layer 1 had 150", layers(yard, 0), "12 1 0 0 0 0 ");
    }

    /** "with a toast each, 0 at first"; what is toasted again gains more. */
    private static void toastsAddUp() {
        Staveyard yard = bent();
        Check.same("at first", layers(yard, 7), "0 0 0 0 0 0 ");
        yard.toast(0, 277, 13);
        yard.toast(0, 149, 60);
        Check.same("too mild", layers(yard, 7), "39 31 22 14 9 5 ");
        yard.toast(0, 267, 6);
        Check.same("more", layers(yard, 7), "57 39 26 14 9 5 ");
    }

    /** "A layer is char that has a toast of 40 or more". */
    private static void charFromForty() {
        Staveyard yard = bent();
        Check.same("39", yard.toast(0, 150, 39), 0);
        Check.same("39 again", yard.toast(0, 149, 1), 0);
        Check.same("40", yard.toast(0, 150, 1), 8);
        Check.same("41", yard.toast(0, 150, 1), 8);
    }

    /** "how many layers of all staves are char": each layer at 39 and 40. */
    private static void charOfEachLayer() {
        int[][] last = {{1, 200, 42}, {2, 200, 44}, {3, 200, 47}, {4, 200, 49}, {5, 200, 52}};
        for (int[] toast : last) {
            Staveyard yard = bent();
            Check.same("39 in the layer " + toast[0], yard.toast(0, toast[1], toast[2]), 8 * toast[0]);
            Check.same("just 39", yard.toastAt(0, 3, toast[0]), 39);
            Staveyard more = bent();
            Check.same("40 in the layer " + toast[0], more.toast(0, toast[1], toast[2] + 1), 8 * toast[0] + 8);
            Check.same("just 40", more.toastAt(0, 3, toast[0]), 40);
        }
        Staveyard repaired = Yards.bent(0);
        repaired.toast(0, 150, 40);
        repaired.replace(0, 5, 35);
        Check.same("one of nine is new", repaired.toast(0, 100, 1), 8);
        Check.same("shaving counts, too", repaired.shave(0, 1), 0);
    }

    /** "Shaving takes layers off the inside: the others move up, and new ones at the back are 0". */
    private static void shavingTakesLayersOff() {
        String[] left = {"39 31 22 14 9 5 ", "31 22 14 9 5 0 ", "22 14 9 5 0 0 ", "14 9 5 0 0 0 "};
        for (int layers = 1; layers <= 3; layers++) {
            Staveyard yard = bent();
            yard.toast(0, 277, 13);
            Check.same("before", layers(yard, 2), left[0]);
            Check.same("none is char", yard.shave(0, layers), 0);
            for (int place = 0; place < 8; place++) {
                Check.same("shaved " + layers, layers(yard, place), left[layers]);
            }
        }
        Staveyard yard = bent();
        yard.toast(0, 200, 43);
        Check.same("86 is off, 40 is char", yard.shave(0, 1), 8);
        Check.same("40 is off, 38 is none", yard.shave(0, 1), 0);
        Check.same("moved up", layers(yard, 0), "38 35 33 30 0 0 ");
    }

    /** All six layers are off after 3 and 3; there is nothing to take off then, and that is an event all the same. */
    private static void shavingBareOnes() {
        Staveyard yard = bent();
        Check.same("all six are char", yard.toast(0, 400, 60), 48);
        Check.same("three left", yard.shave(0, 3), 24);
        Check.same("none left", yard.shave(0, 3), 0);
        Check.same("bare", layers(yard, 1), "0 0 0 0 0 0 ");
        Check.same("still bare", yard.shave(0, 3), 0);
        Check.same("three events", Picture.events(yard, 0), "rbtsss");
        Staveyard raised = cask(3, 170, 300, 300);
        Check.same("not bent, not toasted", raised.shave(0, 1), 0);
    }

    private static Staveyard great(int upper, int lower) {
        Staveyard yard = Yards.widest();
        yard.raise(2600, upper, lower, 9);
        yard.bend(0, 60, 60);
        return yard;
    }

    /** "The diameter of a sum is 1000 times it, divided by 3142, cut": 1571 gives just 500. */
    private static void diameterIsCut() {
        Check.same("1571", great(1571, 1570).groove(0, 0, 3), 506);
        Check.same("1570", great(1571, 1570).groove(0, 1, 3), 505);
        Check.same("1572", great(1572, 1574).groove(0, 0, 3), 506);
        Check.same("1574, 500.95", great(1572, 1574).groove(0, 1, 3), 506);
        Check.same("1575, 501.3", great(1575, 2599).groove(0, 0, 3), 507);
        Check.same("2599, 827.2", great(1575, 2599).groove(0, 1, 3), 833);
    }

    /** "A groove is cut at an end with a depth, 3 to 8; its diameter is that of the end plus twice the depth". */
    private static void grooveBetweenThreeAndEight() {
        for (int depth = 3; depth <= 8; depth++) {
            Check.same("upper", great(1571, 1570).groove(0, 0, depth), 500 + 2 * depth);
            Check.same("lower", great(1571, 1570).groove(0, 1, depth), 499 + 2 * depth);
        }
        Staveyard yard = great(1571, 1570);
        for (int depth = 3; depth <= 8; depth++) {
            Check.same("ever deeper", yard.groove(0, 0, depth), 500 + 2 * depth);
            int same = depth;
            Check.refuses("as deep", yard, Check.STATE, () -> yard.groove(0, 0, same));
        }
        Check.refuses("deeper than 8", yard, Check.ARGUMENT, () -> yard.groove(0, 0, 9));
        Check.refuses("as deep as 8", yard, Check.STATE, () -> yard.groove(0, 0, 8));
        Check.same("each is an event", Picture.events(yard, 0), "rbgggggg");
    }

    /** "a head there is taken out and thrown away": only the one at this end, and it stays used. */
    private static void deeperGrooveThrowsTheHeadAway() {
        Staveyard yard = Yards.whole();
        yard.cutHead(275);
        yard.cutHead(277);
        Check.refuses("as deep leaves it", yard, Check.STATE, () -> yard.groove(0, 0, 4));
        Check.same("whole", yard.isWhole(0), true);
        Check.same("deeper", yard.groove(0, 0, 5), 277);
        Check.same("not whole", yard.isWhole(0), false);
        Check.refuses("thrown away", yard, Check.UNSUPPORTED, () -> yard.fit(0, 0, 0));
        Check.same("of the old diameter", yard.fit(0, 0, 2), false);
        Check.same("of the new one", yard.fit(0, 0, 3), true);
        Check.same("the lower head was left", yard.isWhole(0), true);
        Check.refuses("it has one again", yard, Check.UNSUPPORTED, () -> yard.fit(0, 0, 2));
    }

    /** "A head is cut to a diameter; it fits if it is just that of the groove". */
    private static void headFitsIfJustSo() {
        Staveyard yard = Yards.bent(0);
        yard.groove(0, 0, 4);
        for (int diameter : new int[] {50, 274, 276, 1000, 267, 271}) {
            int head = yard.cutHead(diameter);
            Check.same("a head of " + diameter, yard.fit(0, 0, head), false);
            Check.same("tried again", yard.fit(0, 0, head), false);
        }
        Check.same("no event", Picture.events(yard, 0), "rbg");
        int right = yard.cutHead(275);
        Check.same("just so", yard.fit(0, 0, right), true);
        Check.same("an event", Picture.events(yard, 0), "rbgh");
    }

    /** "and is used then": in no other groove of any cask. */
    private static void headIsUsedThen() {
        Staveyard yard = Yards.twoBent();
        yard.groove(0, 0, 4);
        yard.groove(1, 0, 4);
        yard.cutHead(275);
        yard.cutHead(275);
        Check.same("fits", yard.fit(1, 0, 0), true);
        Check.refuses("used", yard, Check.UNSUPPORTED, () -> yard.fit(0, 0, 0));
        Check.same("another", yard.fit(0, 0, 1), true);
    }

    /** "Cuts a head, 40 at most": also those that are thrown away count. */
    private static void fortyHeads() {
        Staveyard yard = Yards.bent(0);
        for (int depth = 3; depth <= 8; depth++) {
            Yards.head(yard, 0, 0, depth);
        }
        for (int head = 6; head < 40; head++) {
            Check.same("the number", yard.cutHead(50 + head), head);
        }
        Check.refuses("the 41st", yard, Check.STATE, () -> yard.cutHead(50));
        Check.same("the 40th", yard.groove(0, 1, 3) == 270 && !yard.fit(0, 1, 39), true);
        Check.refuses("no number 40", yard, Check.ARGUMENT, () -> yard.fit(0, 1, 40));
    }
}
