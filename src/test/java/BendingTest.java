/** Promises 20 to 27: bend, isCracked, toast, toastAt, shave, groove, cutHead, fit. */
final class BendingTest {
    public static void main(String[] args) {
        bendNeeds();
        bendByRegion();
        bendMoisture();
        bendRefuses();
        isCracked();
        toastMinutes();
        toastToChar();
        toastRefuses();
        toastAt();
        shave();
        shaveRefuses();
        groove();
        grooveDeeper();
        grooveRefuses();
        cutHead();
        fit();
        fitRefuses();
        Check.end();
    }

    /** 17 of moisture and 67 of fire and steam are just the 84 that it needs. */
    private static void bendNeeds() {
        Check.same("enough", Yards.raised(0).bend(0, 2, 21), 0);
        Check.same("one too little", Yards.raised(0).bend(0, 0, 22), 9);
        Check.same("nothing", Yards.raised(0).bend(0, 0, 0), 9);
        Staveyard lesser = Yards.seasoned();
        lesser.raise(1000, 825, 840, 9);
        Check.same("by the lesser end, above", lesser.bend(0, 2, 21), 9);
        Staveyard cut = Yards.seasoned();
        cut.raise(1000, 840, 826, 9);
        Check.same("a fifth is cut", cut.bend(0, 2, 21), 0);
    }

    private static void bendByRegion() {
        Staveyard yard = Yards.alike();
        yard.raise(352, 200, 200, 9);
        Check.same("the one of region 0 cracks", yard.bend(0, 0, 27), 1);
        Check.same("in its place", yard.isCracked(0, 0), true);
        Check.same("no other", yard.isCracked(0, 7), false);
        Staveyard more = Yards.alike();
        more.raise(352, 200, 200, 9);
        Check.same("none", more.bend(0, 1, 27), 0);
        Staveyard less = Yards.alike();
        less.raise(352, 200, 200, 9);
        Check.same("all", less.bend(0, 2, 16), 8);
        Staveyard some = Yards.alike();
        some.raise(352, 200, 200, 9);
        Check.same("just enough for region 3", some.bend(0, 1, 17), 1);
    }

    private static void bendMoisture() {
        Staveyard yard = Yards.raised(0);
        yard.bend(0, 2, 21);
        Check.same("fire takes, steam gives", yard.stave(32, 'm'), 193);
        Check.same("not in the stack", yard.stave(36, 'm'), 176);
        Staveyard dry = Yards.seasoned();
        dry.month(80, 0);
        dry.raise(1000, 840, 830, 9);
        dry.bend(0, 60, 7);
        Check.same("at least 50 stays, then steam", dry.stave(32, 'm'), 57);
        Staveyard edge = Yards.seasoned();
        edge.month(66, 0);
        edge.raise(1000, 840, 830, 9);
        edge.bend(0, 29, 0);
        Check.same("110 less 58", edge.stave(32, 'm'), 52);
    }

    private static void bendRefuses() {
        Staveyard yard = Yards.raised(0);
        int[][] wrong = {{-1, 0}, {61, 0}, {0, -1}, {0, 61}};
        for (int[] minutes : wrong) {
            Check.refuses("bend " + minutes[0] + " " + minutes[1], yard, Check.ARGUMENT, () -> yard.bend(0, minutes[0], minutes[1]));
        }
        Check.refuses("bend cask 1", yard, Check.INDEX, () -> yard.bend(1, 61, 61));
        Check.refuses("bend cask -1", yard, Check.INDEX, () -> yard.bend(-1, 1, 1));
        Check.same("bend at most", yard.bend(0, 60, 60), 0);
        Check.refuses("bend twice", yard, Check.UNSUPPORTED, () -> yard.bend(0, 20, 20));
        Check.refuses("bend twice, out of range", yard, Check.ARGUMENT, () -> yard.bend(0, 20, 61));
    }

    private static void isCracked() {
        Staveyard yard = Yards.raised(0);
        Check.same("not before", yard.isCracked(0, 0), false);
        yard.bend(0, 0, 0);
        Check.same("cracked", yard.isCracked(0, 8), true);
        Check.refuses("place 9", yard, Check.NO_ELEMENT, () -> yard.isCracked(0, 9));
        Check.refuses("place -1", yard, Check.NO_ELEMENT, () -> yard.isCracked(0, -1));
        Check.refuses("cask 1", yard, Check.INDEX, () -> yard.isCracked(1, 9));
    }

    private static String layers(Staveyard yard, int place) {
        StringBuilder text = new StringBuilder();
        for (int layer = 0; layer < 6; layer++) {
            text.append(yard.toastAt(0, place, layer)).append(' ');
        }
        return text.toString();
    }

    /** At a heat of 200 the layer 1 has 80, 120, 146 and 164 in the first four minutes. */
    private static void toastMinutes() {
        Staveyard yard = Yards.bent(0);
        Check.same("at first", layers(yard, 0), "0 0 0 0 0 0 ");
        Check.same("no char", yard.toast(0, 200, 3), 0);
        Check.same("three minutes", layers(yard, 0), "6 0 0 0 0 0 ");
        yard.toast(0, 200, 4);
        Check.same("begun anew at 20", layers(yard, 8), "14 1 0 0 0 0 ");
        Staveyard hot = Yards.bent(0);
        hot.toast(0, 400, 3);
        Check.same("146, 230, 286 in the layer 1, 62, 118, 174 in the layer 2", layers(hot, 3), "18 5 1 0 0 0 ");
        Staveyard deep = Yards.bent(0);
        deep.toast(0, 365, 10);
        Check.same("through all layers, from 20 on", layers(deep, 5), "50 35 23 15 7 2 ");
        Staveyard mild = Yards.bent(0);
        mild.toast(0, 149, 60);
        Check.same("too mild", layers(mild, 0), "0 0 0 0 0 0 ");
        mild.toast(0, 150, 2);
        Check.same("150 gives 1", layers(mild, 0), "2 0 0 0 0 0 ");
        mild.toast(0, 199, 1);
        Check.same("199 gives 1", layers(mild, 0), "3 0 0 0 0 0 ");
        mild.toast(0, 250, 1);
        Check.same("250 gives 3", layers(mild, 0), "6 0 0 0 0 0 ");
    }

    private static void toastToChar() {
        Staveyard yard = Yards.bent(0);
        Check.same("at 39", yard.toast(0, 150, 39), 0);
        Check.same("at 40", yard.toast(0, 150, 1), 9);
        Staveyard deep = Yards.bent(0);
        Check.same("three layers of nine staves", deep.toast(0, 300, 20), 27);
        Check.same("the layer 0", deep.toastAt(0, 0, 0), 80);
        Check.same("the layer 1", deep.toastAt(0, 3, 1), 53);
    }

    private static void toastRefuses() {
        Staveyard yard = Yards.raised(0);
        Check.refuses("toast before bending", yard, Check.UNSUPPORTED, () -> yard.toast(0, 200, 10));
        Check.refuses("too mild before bending", yard, Check.ARGUMENT, () -> yard.toast(0, 99, 10));
        Staveyard full = Yards.filled();
        Check.refuses("toast a full one", full, Check.STATE, () -> full.toast(0, 200, 10));
        int[][] wrong = {{99, 10}, {401, 10}, {200, 0}, {200, 61}, {Integer.MIN_VALUE, 1}, {100, Integer.MAX_VALUE}};
        for (int[] toast : wrong) {
            Check.refuses("toast " + toast[0] + " " + toast[1], full, Check.ARGUMENT, () -> full.toast(0, toast[0], toast[1]));
        }
        full.pour(0, 6420);
        Check.refuses("toast one with a little", full, Check.STATE, () -> full.toast(0, 200, 10));
        Check.refuses("shave one with a little", full, Check.STATE, () -> full.shave(0, 1));
        Check.refuses("groove one with a little", full, Check.STATE, () -> full.groove(0, 0, 8));
        Check.refuses("toast cask 1", full, Check.INDEX, () -> full.toast(1, 99, 0));
        full.pour(0, full.within(0, 'v'));
        Check.same("toast once it is empty", full.toast(0, 400, 60) > 0, true);
        Check.same("the least toasting", full.toast(0, 100, 1) > 0, true);
    }

    private static void toastAt() {
        Staveyard yard = Yards.bent(0);
        Check.same("the last layer", yard.toastAt(0, 8, 5), 0);
        Check.refuses("layer 6", yard, Check.ARGUMENT, () -> yard.toastAt(0, 0, 6));
        Check.refuses("layer -1", yard, Check.ARGUMENT, () -> yard.toastAt(0, 0, -1));
        Check.refuses("place 9", yard, Check.NO_ELEMENT, () -> yard.toastAt(0, 9, 6));
        Check.refuses("place -1", yard, Check.NO_ELEMENT, () -> yard.toastAt(0, -1, 0));
        Check.refuses("cask 1", yard, Check.INDEX, () -> yard.toastAt(1, 9, 6));
    }

    private static void shave() {
        Staveyard yard = Yards.bent(0);
        yard.toast(0, 400, 60);
        int[] before = new int[6];
        for (int layer = 0; layer < 6; layer++) {
            before[layer] = yard.toastAt(0, 4, layer);
        }
        Check.same("all are char", yard.toast(0, 100, 1), 54);
        Check.same("two are shaved", yard.shave(0, 2), 36);
        for (int layer = 0; layer < 6; layer++) {
            Check.same("layer " + layer, yard.toastAt(0, 4, layer), layer < 4 ? before[layer + 2] : 0);
        }
        Check.same("one is shaved", yard.shave(0, 1), 27);
        Check.same("three are shaved", yard.shave(0, 3), 0);
        Check.same("none is left", layers(yard, 4), "0 0 0 0 0 0 ");
        Check.same("one that was not bent", Yards.raised(0).shave(0, 3), 0);
    }

    private static void shaveRefuses() {
        Staveyard yard = Yards.filled();
        Check.refuses("shave a full one", yard, Check.STATE, () -> yard.shave(0, 1));
        Check.refuses("shave none", yard, Check.ARGUMENT, () -> yard.shave(0, 0));
        Check.refuses("shave 4", yard, Check.ARGUMENT, () -> yard.shave(0, 4));
        Check.refuses("shave cask 1", yard, Check.INDEX, () -> yard.shave(1, 4));
        yard.pour(0, 6421);
        Check.same("shave an empty one", yard.shave(0, 1), 0);
    }

    private static void groove() {
        Staveyard yard = Yards.bent(0);
        Check.same("267 and 6", yard.groove(0, 0, 3), 273);
        Check.same("264 and 16", yard.groove(0, 1, 8), 280);
        Check.same("deeper", yard.groove(0, 0, 4), 275);
        Check.same("the deepest", yard.groove(0, 0, 8), 283);
        Staveyard wide = Yards.seasoned();
        wide.raise(1000, 999, 500, 9);
        wide.bend(0, 20, 20);
        Check.same("999000 by 3142 is 317.9", wide.groove(0, 0, 3), 323);
        Check.same("500000 by 3142 is 159.1", wide.groove(0, 1, 3), 165);
    }

    private static void grooveDeeper() {
        Staveyard yard = Yards.whole();
        Check.same("whole", yard.isWhole(0), true);
        Check.refuses("as deep", yard, Check.STATE, () -> yard.groove(0, 0, 4));
        Check.refuses("less deep", yard, Check.STATE, () -> yard.groove(0, 1, 3));
        Check.same("deeper", yard.groove(0, 0, 5), 277);
        Check.same("the head is gone", yard.isWhole(0), false);
        int head = yard.cutHead(277);
        Check.refuses("the old head is used", yard, Check.UNSUPPORTED, () -> yard.fit(0, 0, 0));
        Check.same("a new head", yard.fit(0, 0, head), true);
        Check.same("whole again", yard.isWhole(0), true);
    }

    private static void grooveRefuses() {
        Staveyard yard = Yards.raised(0);
        Check.refuses("before bending", yard, Check.UNSUPPORTED, () -> yard.groove(0, 0, 3));
        Staveyard full = Yards.filled();
        Check.refuses("a full one", full, Check.STATE, () -> full.groove(0, 0, 8));
        int[][] wrong = {{-1, 3}, {2, 3}, {0, 2}, {0, 9}};
        for (int[] groove : wrong) {
            Check.refuses("groove " + groove[0] + " " + groove[1], yard, Check.ARGUMENT, () -> yard.groove(0, groove[0], groove[1]));
        }
        Check.refuses("groove cask 1", yard, Check.INDEX, () -> yard.groove(1, 2, 3));
    }

    private static void cutHead() {
        Staveyard yard = new Staveyard();
        Check.same("the least", yard.cutHead(50), 0);
        Check.same("the greatest", yard.cutHead(1000), 1);
        for (int diameter : new int[] {49, 1001, -50, Integer.MAX_VALUE}) {
            Check.refuses("head of " + diameter, yard, Check.ARGUMENT, () -> yard.cutHead(diameter));
        }
        for (int head = 2; head < 40; head++) {
            Check.same("head", yard.cutHead(300), head);
        }
        Check.refuses("head 40", yard, Check.STATE, () -> yard.cutHead(300));
        Check.refuses("head 40 out of range", yard, Check.ARGUMENT, () -> yard.cutHead(49));
    }

    private static void fit() {
        Staveyard yard = Yards.bent(0);
        yard.groove(0, 0, 4);
        yard.cutHead(274);
        yard.cutHead(275);
        yard.cutHead(276);
        Check.same("too small", yard.fit(0, 0, 0), false);
        Check.same("too great", yard.fit(0, 0, 2), false);
        Check.same("just right", yard.fit(0, 0, 1), true);
        yard.groove(0, 1, 5);
        Check.same("one that was tried elsewhere", yard.fit(0, 1, 0), true);
        Check.same("whole", yard.isWhole(0), true);
        Check.same("an event for each that fits", yard.events(0), 6);
    }

    private static void fitRefuses() {
        Staveyard yard = Yards.bent(0);
        Check.refuses("no such head", yard, Check.ARGUMENT, () -> yard.fit(0, 0, 0));
        yard.cutHead(275);
        yard.cutHead(275);
        Check.refuses("no groove", yard, Check.UNSUPPORTED, () -> yard.fit(0, 0, 0));
        yard.groove(0, 0, 4);
        yard.groove(0, 1, 5);
        yard.fit(0, 0, 0);
        Check.refuses("it has a head", yard, Check.UNSUPPORTED, () -> yard.fit(0, 0, 1));
        Check.refuses("the head is used", yard, Check.UNSUPPORTED, () -> yard.fit(0, 1, 0));
        Check.same("one that does not fit", yard.fit(0, 1, 1), false);
        Check.refuses("head 2", yard, Check.ARGUMENT, () -> yard.fit(0, 0, 2));
        Check.refuses("head -1", yard, Check.ARGUMENT, () -> yard.fit(0, 0, -1));
        Check.refuses("end 2", yard, Check.ARGUMENT, () -> yard.fit(0, 2, 0));
        Check.refuses("end -1", yard, Check.ARGUMENT, () -> yard.fit(0, -1, 0));
        Check.refuses("cask 1", yard, Check.INDEX, () -> yard.fit(1, 2, 2));
        Staveyard green = Yards.raised(0);
        green.cutHead(275);
        Check.refuses("not bent, so no groove", green, Check.UNSUPPORTED, () -> green.fit(0, 0, 0));
    }
}
