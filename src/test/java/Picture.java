import java.util.NoSuchElementException;

/** All that a yard shows, as a text, without the number of tries. */
final class Picture {
    private Picture() {
    }

    static String of(Staveyard yard) {
        StringBuilder text = new StringBuilder();
        text.append(yard.staves()).append(' ').append(yard.stacked()).append(' ').append(yard.widths());
        for (int stave = 0; stave < yard.staves(); stave++) {
            text.append("\nstave ").append(stave).append(' ').append(yard.isWhere(stave));
            for (char what : "wmtlrg".toCharArray()) {
                text.append(' ').append(what).append(yard.stave(stave, what));
            }
        }
        text.append("\nstack");
        for (int index = 0; index < yard.stacked(); index++) {
            text.append(' ').append(yard.inStack(index));
        }
        for (int cask = 0; cask < casks(yard); cask++) {
            describe(yard, cask, text);
        }
        text.append("\nvat");
        for (char what : "vtmrf".toCharArray()) {
            text.append(' ').append(what).append(yard.vat(what));
        }
        text.append("\nsound ").append(yard.isSound()).append(" loss ").append(meanLoss(yard));
        return text.toString();
    }

    static int casks(Staveyard yard) {
        int count = 0;
        try {
            while (count < 100) {
                yard.size(count);
                count++;
            }
        } catch (IndexOutOfBoundsException e) {
            return count;
        }
        return count;
    }

    private static String meanLoss(Staveyard yard) {
        try {
            return "" + yard.meanLoss();
        } catch (ArithmeticException e) {
            return "none";
        }
    }

    private static void describe(Staveyard yard, int cask, StringBuilder text) {
        text.append("\ncask ").append(cask).append(' ').append(yard.isWhole(cask)).append(' ').append(yard.content(cask));
        text.append(' ').append(yard.originals(cask)).append(' ').append(yard.woods(cask)).append(' ').append(yard.closest(cask));
        for (char what : "vtmu".toCharArray()) {
            text.append(' ').append(what).append(yard.within(cask, what));
        }
        for (int hoop = 0; hoop < 6; hoop++) {
            text.append(' ').append(yard.tightness(cask, hoop));
        }
        for (int place = 0; place < yard.size(cask); place++) {
            text.append("\n  place ").append(yard.at(cask, place)).append(' ').append(yard.isCracked(cask, place));
            for (int height = 0; height < 3; height++) {
                text.append(' ').append(yard.width(cask, place, height)).append(yard.leaks(cask, place, height));
            }
            for (int layer = 0; layer < 6; layer++) {
                text.append(' ').append(yard.toastAt(cask, place, layer));
            }
        }
        text.append("\n  events ").append(events(yard, cask));
    }

    static String events(Staveyard yard, int cask) {
        StringBuilder text = new StringBuilder();
        try {
            for (int back = 0; back < 100; back++) {
                text.insert(0, yard.event(cask, back));
            }
        } catch (NoSuchElementException e) {
            return text.toString();
        }
        return text.toString();
    }
}
