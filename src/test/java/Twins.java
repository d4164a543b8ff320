/** Edges of calls: each is tried on a yard of its own; one that refused is compared with a twin that had no such call. */
final class Twins {
    interface Maker {
        Staveyard make();
    }

    interface Use {
        Object of(Staveyard yard);
    }

    interface Numbered {
        Object of(Staveyard yard, int number);
    }

    private Twins() {
    }

    /** What the call answers, or the name of what it throws. */
    static String answer(Staveyard yard, Use use) {
        try {
            return String.valueOf(use.of(yard));
        } catch (RuntimeException e) {
            return "/ by zero".equals(e.getMessage()) ? "the machine threw" : e.getClass().getName();
        }
    }

    /** The call must throw just this class, by a throw of the program, and change nothing, not even tries. */
    static void refuses(String what, Maker maker, Class<? extends RuntimeException> due, Use use) {
        Staveyard yard = maker.make();
        Check.same(what, answer(yard, use), due.getName());
        Check.that(what + " changed something", Inside.of(yard).equals(Inside.of(maker.make())));
    }

    static void takes(String what, Maker maker, Object due, Use use) {
        Check.same(what, answer(maker.make(), use), String.valueOf(due));
    }

    /** Takes the least and the most; refuses the numbers next to them and those farthest off. */
    static void range(String what, Maker maker, Class<? extends RuntimeException> due, int least, int most, Numbered use) {
        for (int number : new int[] {least - 1, most + 1, Integer.MIN_VALUE, Integer.MAX_VALUE}) {
            refuses(what + " " + number, maker, due, yard -> use.of(yard, number));
        }
        for (int number : new int[] {least, most}) {
            String got = answer(maker.make(), yard -> use.of(yard, number));
            Check.that(what + " " + number + " was refused: " + got, !got.endsWith("Exception") && !got.endsWith("threw"));
        }
    }

    /** Takes these letters alone, of all that there are; they must be told by rising numbers. */
    static void letters(String what, Maker maker, String taken, Numbered use) {
        Staveyard yard = maker.make();
        StringBuilder answered = new StringBuilder();
        for (int letter = 0; letter <= Character.MAX_VALUE; letter++) {
            int its = letter;
            if (!answer(yard, any -> use.of(any, its)).equals(Check.ARGUMENT.getName())) {
                answered.append((char) letter);
            }
        }
        Check.same(what + ", the letters", answered.toString(), taken);
        Check.that(what + " changed something", Inside.of(yard).equals(Inside.of(maker.make())));
    }
}
