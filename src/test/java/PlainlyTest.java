import java.lang.reflect.InvocationTargetException;
import java.lang.reflect.Method;
import java.lang.reflect.Modifier;
import java.util.ArrayList;
import java.util.Arrays;
import java.util.HashMap;
import java.util.List;
import java.util.Map;
import java.util.TreeMap;

/**
 * Long runs of calls that look arbitrary and are always the same, played on the program and on Plainly, which tells
 * the document a second time: each answer and each exception must be the same, and so must all that can be asked.
 */
final class PlainlyTest {
    private static final int CALLS = 512;
    private static final int RUNS = 40;
    private static final int[] ODD = {-1, Integer.MIN_VALUE, Integer.MAX_VALUE, 100, -7, 0, 1};
    /** Each name as often as it is to be called among the others. */
    private static final String USUAL = "addLog knot knot split month month month turnStack setJig leastSum leastSumAnew raise bend bend toast"
        + " toast shave groove groove groove fit fit fit fit drive drive drive tryAir findLeak fill fill fill keep keep keep pour pour"
        + " pour emptyVat replace replace replace";

    private final Map<String, Method> program = new TreeMap<>();
    private final Map<String, Method> plain = new HashMap<>();
    private final Map<String, Integer> answered = new TreeMap<>();
    private final String[] names = USUAL.split(" ");
    private long state;
    private Staveyard yard;
    private Plainly told;
    private int run;
    private int asked;

    /** Other runs, or more of them, are played if the first one and their number are told. */
    public static void main(String[] args) {
        int from = args.length > 0 ? Integer.parseInt(args[0]) : 0;
        int runs = args.length > 1 ? Integer.parseInt(args[1]) : RUNS;
        PlainlyTest test = new PlainlyTest();
        for (int run = from; run < from + runs; run++) {
            test.play(run);
        }
        for (String name : test.program.keySet()) {
            Check.that(name + " never answered", test.answered.getOrDefault(name, 0) > 0);
        }
        Check.end();
    }

    private PlainlyTest() {
        learn(Staveyard.class, program);
        learn(Plainly.class, plain);
        Check.that("Plainly has other methods", program.keySet().equals(plain.keySet()));
    }

    private static void learn(Class<?> type, Map<String, Method> methods) {
        for (Method method : type.getDeclaredMethods()) {
            if (Modifier.isPublic(method.getModifiers())) {
                methods.put(method.getName(), method);
            }
        }
    }

    private void play(int number) {
        run = number;
        state = 7919L * number;
        yard = new Staveyard();
        told = new Plainly();
        asked = 0;
        begin();
        while (asked < CALLS) {
            String name = below(12) == 0 ? any() : names[below(names.length)];
            call(name, arguments(name));
            if (below(20) == 0) {
                askAll();
            }
        }
        askAll();
    }

    private String any() {
        Object[] all = program.keySet().toArray();
        return (String) all[below(all.length)];
    }

    // ---- how runs begin: logs, split and dried, so that casks can be raised; in some the casks are made, too

    private void begin() {
        int logs = run % 5 == 4 ? 0 : 1 + below(10);
        boolean large = below(2) == 0;
        int knots = below(large ? 8 : 5);
        for (int log = 0; log < logs; log++) {
            call("addLog", below(4), large ? 40 + below(21) : 12 + below(30), below(5) == 0 ? 6 + below(7) : 9);
            for (int knot = 0; knot < knots; knot++) {
                call("knot", log, below(8));
            }
            call("split", log);
        }
        for (int months = below(3) == 0 ? below(8) : 9; months > 0; months--) {
            call("month", 60 + below(21), below(3) == 0 ? below(61) : 0);
        }
        for (int cask = 0; cask < 3 && run % 5 < 3; cask++) {
            make(cask);
        }
    }

    private void make(int cask) {
        call("setJig", below(3));
        int bilge = below(2) == 0 ? 320 + below(200) : bilge();
        call("raise", bilge, bilge - 1 - below(bilge / 2), bilge - 1 - below(bilge / 2), lengthOfSome());
        call("bend", cask, 30 + below(31), 20 + below(41));
        if (below(2) == 0) {
            call("toast", cask, 200 + below(201), 1 + below(30));
        }
        for (int hoop = 0; hoop < 6 && below(4) > 0; hoop++) {
            call("drive", cask, hoop, 1 + below(20));
        }
        for (int end = 0; end < 2; end++) {
            call("groove", cask, end, 3 + below(3));
            call("fit", fitting(cask, end));
        }
        call("fill", cask);
        for (int times = below(5); times > 0; times--) {
            call("keep", cask, 1 + below(120), below(5));
        }
    }

    // ---- arguments that are worth a try

    private Object[] arguments(String name) {
        Object[] arguments = usual(name);
        Class<?>[] types = program.get(name).getParameterTypes();
        for (int index = 0; index < types.length; index++) {
            if (below(30) == 0) {
                arguments[index] = types[index] == char.class ? (Object) (char) below(256) : (Object) ODD[below(ODD.length)];
            }
        }
        return arguments;
    }

    private Object[] usual(String name) {
        int cask = below(Math.max(1, casks()));
        int place = below(casks() == 0 ? 1 : told.size(cask) + (below(20) == 0 ? 1 : 0));
        switch (name) {
            case "addLog": return row(below(4), 12 + below(49), below(4) == 0 ? 6 + below(7) : 9);
            case "knot": return row(below(10), below(8));
            case "split": return row(below(10));
            case "stave": return row(stave(), letter("wmtlrg"));
            case "isWhere": return row(stave());
            case "inStack": return row(below(told.stacked() + 1));
            case "month": return row(below(3) == 0 ? below(81) : 60 + below(21), below(2) * below(61));
            case "setJig": return row(below(4));
            case "leastSum": case "leastSumAnew": return row(bilge(), lengthOfSome());
            case "raise": return raising();
            case "width": case "leaks": return row(cask, place, below(3));
            case "toastAt": return row(cask, place, below(6));
            case "at": case "isCracked": return row(cask, place);
            case "closing": return row(cask, below(3));
            case "bend": return row(cask, below(61), below(61));
            case "toast": return row(cask, 100 + below(301), 1 + below(below(2) == 0 ? 60 : 12));
            case "shave": return row(cask, 1 + below(3));
            case "groove": return row(cask, below(2), 3 + below(below(4) == 0 ? 6 : 2));
            case "cutHead": return row(below(2) == 0 ? 50 + below(951) : 50 + below(300));
            case "fit": return fitting(cask, below(2));
            case "drive": return row(cask, below(6), 1 + below(20));
            case "tightness": return row(cask, below(6));
            case "tryAir": return row(cask, place, place + 1 + below(4));
            case "contentBy": return row(cask, letter("egf"));
            case "keep": return row(cask, 1 + below(below(2) == 0 ? 120 : 4), below(5));
            case "within": return row(cask, letter("vtmu"));
            case "pour": return row(cask, pouring(cask));
            case "vat": return row(letter("vtmrf"));
            case "replace": return row(cask, place, below(6) == 0 ? stave() : fresh(cask, place));
            case "event": return row(cask, below(21));
            default: return program.get(name).getParameterCount() == 0 ? row() : row(cask);
        }
    }

    private static Object[] row(Object... arguments) {
        return arguments;
    }

    private char letter(String letters) {
        return letters.charAt(below(letters.length()));
    }

    private int casks() {
        for (int cask = 0; true; cask++) {
            try {
                told.size(cask);
            } catch (IndexOutOfBoundsException e) {
                return cask;
            }
        }
    }

    private int stave() {
        return below(told.staves() + 1);
    }

    private int lengthOfSome() {
        return told.stacked() == 0 ? 9 : told.stave(told.inStack(below(told.stacked())), 'l');
    }

    private int bilge() {
        return below(4) == 0 ? 320 + below(2681) : 320 + below(700);
    }

    private Object[] raising() {
        int bilge = bilge();
        int upper = bilge - 1 - below(bilge / 2);
        int lower = below(3) == 0 ? upper : bilge - 1 - below(bilge / 2);
        return row(bilge, upper, lower, lengthOfSome());
    }

    /** A head that is cut to the groove, if there is one. */
    private Object[] fitting(int cask, int end) {
        int diameter = cask >= casks() ? 0 : told.grooveFor(cask, end);
        if (diameter > 0 && below(4) > 0) {
            String head = call("cutHead", diameter);
            if (!head.endsWith("Exception")) {
                return row(cask, end, Integer.valueOf(head));
            }
        }
        return row(cask, end, below(40));
    }

    private int pouring(int cask) {
        int there = casks() == 0 ? 0 : told.within(cask, 'v');
        return there == 0 || below(8) == 0 ? 1 + below(3000) : below(4) == 0 ? there : 1 + below(there);
    }

    /** A stave of the stack that could stand there, if there is one. */
    private int fresh(int cask, int place) {
        List<Integer> those = new ArrayList<>();
        for (int index = 0; cask < casks() && place < told.size(cask) && index < told.stacked(); index++) {
            int number = told.inStack(index);
            int old = told.at(cask, place);
            if (told.stave(number, 'l') == told.stave(old, 'l') && told.stave(number, 'w') >= told.stave(old, 'w')) {
                those.add(number);
            }
        }
        return those.isEmpty() ? stave() : those.get(below(those.size()));
    }

    // ---- comparing

    private static String outcome(Method method, Object on, Object[] arguments) {
        try {
            return String.valueOf(method.invoke(on, arguments));
        } catch (InvocationTargetException e) {
            return "/ by zero".equals(e.getCause().getMessage()) ? "the machine threw" : e.getCause().getClass().getName();
        } catch (IllegalAccessException e) {
            return "no access";
        }
    }

    private String here(String what) {
        return "run " + run + ", " + what;
    }

    private String call(String name, Object... arguments) {
        String got = outcome(program.get(name), yard, arguments);
        String due = outcome(plain.get(name), told, arguments);
        Check.same(here(name + Arrays.toString(arguments)), got, due);
        if (!got.endsWith("Exception")) {
            answered.merge(name, 1, Integer::sum);
        }
        asked++;
        return got;
    }

    /** These questions are not counted as calls of the run: they change nothing. */
    private void askAll() {
        int calls = asked;
        for (String name : "staves stacked tries statement widths seasonedShare meanLoss isSound".split(" ")) {
            call(name);
        }
        for (char what : "vtmrf".toCharArray()) {
            call("vat", what);
        }
        for (int stave = 0; stave <= told.staves(); stave++) {
            call("isWhere", stave);
            for (char what : "wmtlrg".toCharArray()) {
                call("stave", stave, what);
            }
        }
        for (int index = 0; index <= told.stacked(); index++) {
            call("inStack", index);
        }
        for (int cask = 0; cask <= casks(); cask++) {
            askOf(cask);
        }
        asked = calls;
    }

    private void askOf(int cask) {
        for (String name : "size isWhole content closest taste originals events woods".split(" ")) {
            call(name, cask);
        }
        for (char what : "vtmu".toCharArray()) {
            call("within", cask, what);
        }
        for (char land : "egf".toCharArray()) {
            call("contentBy", cask, land);
        }
        for (int number = 0; number <= 20; number++) {
            call("event", cask, number);
        }
        for (int number = 0; number < 6; number++) {
            call("tightness", cask, number);
            call("closing", cask, number);
        }
        for (int place = 0; cask < casks() && place <= told.size(cask); place++) {
            call("at", cask, place);
            call("isCracked", cask, place);
            for (int number = 0; number < 6; number++) {
                call("toastAt", cask, place, number);
            }
            for (int height = 0; height < 3; height++) {
                call("width", cask, place, height);
                call("leaks", cask, place, height);
            }
        }
    }

    private int below(int bound) {
        state = state * 6364136223846793005L + 1442695040888963407L;
        return (int) Math.floorMod(state >>> 33, (long) bound);
    }
}
