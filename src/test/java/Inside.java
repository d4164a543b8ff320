/**
 * Uses a yard up, and tells all that it answers: what no question shows, such as knots, grooves, heads, the jig
 * and the months of keeping, shows in what later calls do.
 */
final class Inside {
    private interface Call {
        Object answer();
    }

    private Inside() {
    }

    static String of(Staveyard yard) {
        StringBuilder text = new StringBuilder(Picture.of(yard));
        text.append("\ntries ").append(yard.tries()).append("\njig ").append(yard.setJig(0));
        int casks = Picture.casks(yard);
        tellHeads(yard, casks, text);
        for (int cask = 0; cask < casks; cask++) {
            tellUse(yard, cask, text);
        }
        tellLogs(yard, text);
        text.append("\nthe end\n").append(Picture.of(yard));
        return text.toString();
    }

    private static void tell(StringBuilder text, Call call) {
        try {
            text.append(' ').append(call.answer());
        } catch (RuntimeException e) {
            text.append(' ').append(e.getClass().getSimpleName().charAt(0));
        }
    }

    private static void tellHeads(Staveyard yard, int casks, StringBuilder text) {
        text.append("\nheads");
        for (int cask = 0; cask < casks; cask++) {
            for (int end = 0; end < 2; end++) {
                for (int head = 0; head < 41; head++) {
                    int its = cask;
                    int side = end;
                    int which = head;
                    tell(text, () -> yard.fit(its, side, which));
                }
            }
        }
        for (int head = 0; head < 41; head++) {
            tell(text, () -> yard.cutHead(100));
        }
    }

    private static void tellUse(Staveyard yard, int cask, StringBuilder text) {
        text.append("\nuse");
        tell(text, () -> yard.fill(cask));
        tell(text, () -> yard.keep(cask, 1, 0));
        tell(text, () -> yard.taste(cask));
        tell(text, () -> yard.pour(cask, yard.within(cask, 'v')));
        tell(text, () -> yard.bend(cask, 60, 60));
        tell(text, () -> yard.toast(cask, 200, 1));
        for (int depth = 3; depth <= 8; depth++) {
            int its = depth;
            tell(text, () -> yard.groove(cask, 0, its));
            tell(text, () -> yard.groove(cask, 1, its));
        }
    }

    private static void tellLogs(Staveyard yard, StringBuilder text) {
        text.append("\nlogs");
        for (int log = 0; log < 10; log++) {
            int its = log;
            for (int cleft = 0; cleft < 8; cleft++) {
                int which = cleft;
                tell(text, () -> yard.knot(its, which));
            }
            tell(text, () -> yard.split(its));
        }
        for (int log = 0; log < 11; log++) {
            tell(text, () -> yard.addLog(0, 12, 6));
        }
    }
}
