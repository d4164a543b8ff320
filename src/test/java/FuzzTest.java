import java.lang.reflect.InvocationTargetException;
import java.lang.reflect.Method;
import java.util.ArrayList;
import java.util.Comparator;
import java.util.List;

/**
 * Long runs of calls that look arbitrary and are always the same: each call answers, or throws what the
 * document lets it throw, by a throw statement; what throws changes nothing; the yard stays sound.
 */
final class FuzzTest {
    private static final int RUNS = 60;
    private static final int CALLS = 512;
    private static final String LETTERS = "wmtlrgvufexr";
    private static final int[] ODD = {-1, Integer.MIN_VALUE, Integer.MAX_VALUE, 100, -7};

    private static long state;

    public static void main(String[] args) throws IllegalAccessException {
        List<Method> methods = face();
        int[] answered = new int[methods.size()];
        for (int run = 0; run < RUNS; run++) {
            state = run;
            Staveyard yard = begun(run);
            List<String> told = new ArrayList<>();
            play(yard, methods, answered, told);
            state = run;
            List<String> again = new ArrayList<>();
            play(begun(run), methods, new int[methods.size()], again);
            Check.that("run " + run + " answers otherwise when it is played again", told.equals(again));
        }
        for (int index = 0; index < methods.size(); index++) {
            Check.that(methods.get(index).getName() + " never answered", answered[index] > 0);
        }
        Check.end();
    }

    private static List<Method> face() {
        List<Method> methods = new ArrayList<>();
        for (Method method : Staveyard.class.getDeclaredMethods()) {
            if (java.lang.reflect.Modifier.isPublic(method.getModifiers())) {
                methods.add(method);
            }
        }
        methods.sort(Comparator.comparing(Method::getName));
        return methods;
    }

    private static Staveyard begun(int run) {
        if (run % 3 == 0) {
            return new Staveyard();
        }
        return run % 3 == 1 ? prepared() : Yards.alike();
    }

    private static Staveyard prepared() {
        Staveyard yard = new Staveyard();
        yard.addLog(below(4), 60, 9);
        yard.split(0);
        yard.addLog(below(4), 60, 9);
        yard.split(1);
        Yards.dry(yard, 8, 78);
        yard.setJig(below(2));
        for (int cask = 0; cask < 2; cask++) {
            yard.raise(1000, 840, 830, 9);
            yard.bend(cask, 20, 20);
            Yards.head(yard, cask, 0, 4);
            Yards.head(yard, cask, 1, 4);
        }
        return yard;
    }

    private static void play(Staveyard yard, List<Method> methods, int[] answered, List<String> told) throws IllegalAccessException {
        for (int call = 0; call < CALLS; call++) {
            int index = below(methods.size());
            Method method = methods.get(index);
            Object[] arguments = argumentsFor(method);
            String before = Picture.of(yard);
            try {
                told.add("" + method.invoke(yard, arguments));
                answered[index]++;
            } catch (InvocationTargetException e) {
                judge(method, e.getCause());
                Check.that(method.getName() + " threw and changed something", before.equals(Picture.of(yard)));
                told.add(e.getCause().getClass().getName());
            }
            Check.that("not sound after " + method.getName(), yard.isSound());
        }
    }

    private static void judge(Method method, Throwable thrown) {
        boolean isDocumented = false;
        for (Class<?> type : method.getExceptionTypes()) {
            isDocumented = isDocumented || type == thrown.getClass();
        }
        Check.that(method.getName() + " threw " + thrown, isDocumented);
        Check.that(method.getName() + " let the machine throw " + thrown, !"/ by zero".equals(thrown.getMessage()));
    }

    private static Object[] argumentsFor(Method method) {
        Class<?>[] types = method.getParameterTypes();
        Object[] arguments = new Object[types.length];
        int[] usual = usual(method.getName());
        for (int index = 0; index < types.length; index++) {
            if (types[index] == char.class) {
                arguments[index] = LETTERS.charAt(below(LETTERS.length()));
            } else if (below(25) == 0) {
                arguments[index] = ODD[below(ODD.length)];
            } else {
                int least = usual[2 * index];
                arguments[index] = least + below(usual[2 * index + 1] - least + 1);
            }
        }
        return arguments;
    }

    /** The least and the greatest of each argument that is worth a try; the first is a cask where nothing else is told. */
    private static int[] usual(String name) {
        switch (name) {
            case "addLog": return new int[] {0, 3, 12, 60, 8, 9};
            case "knot": return new int[] {0, 9, 0, 8};
            case "split": return new int[] {0, 9};
            case "stave": case "isWhere": return new int[] {0, 80};
            case "inStack": return new int[] {0, 60};
            case "month": return new int[] {0, 80, 0, 60};
            case "setJig": return new int[] {0, 3};
            case "leastSum": case "leastSumAnew": return new int[] {320, 420, 8, 9};
            case "raise": return new int[] {320, 900, 300, 450, 300, 450, 8, 9};
            case "width": return new int[] {0, 2, 0, 10, 0, 3};
            case "bend": return new int[] {0, 2, 0, 60, 0, 60};
            case "toast": return new int[] {0, 2, 100, 400, 1, 60};
            case "toastAt": return new int[] {0, 2, 0, 10, 0, 6};
            case "shave": return new int[] {0, 2, 1, 3};
            case "groove": return new int[] {0, 2, 0, 1, 3, 8};
            case "cutHead": return new int[] {260, 290};
            case "fit": return new int[] {0, 2, 0, 1, 0, 39};
            case "drive": return new int[] {0, 2, 0, 6, 1, 20};
            case "leaks": return new int[] {0, 2, 0, 10, 0, 3};
            case "tryAir": return new int[] {0, 2, 0, 4, 3, 9};
            case "keep": return new int[] {0, 1, 1, 120, 0, 4};
            case "pour": return new int[] {0, 1, 1, 3000};
            case "replace": return new int[] {0, 1, 0, 9, 0, 79};
            case "event": return new int[] {0, 2, 0, 20};
            default: return new int[] {0, 2, 0, 6};
        }
    }

    private static int below(int bound) {
        state = state * 6364136223846793005L + 1442695040888963407L;
        return (int) Math.floorMod(state >>> 33, (long) bound);
    }
}
