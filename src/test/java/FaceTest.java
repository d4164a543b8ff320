import java.lang.reflect.Constructor;
import java.lang.reflect.Field;
import java.lang.reflect.Method;
import java.lang.reflect.Modifier;
import java.util.Arrays;
import java.util.TreeSet;

/** The public face, as the document's code block has it: no member less, and none more. */
final class FaceTest {
    private static final String[] FACE = {
        "int addLog(int,int,int) IllegalArgumentException,IllegalStateException",
        "boolean knot(int,int) IndexOutOfBoundsException,IllegalArgumentException,UnsupportedOperationException",
        "int split(int) IndexOutOfBoundsException,UnsupportedOperationException,IllegalStateException",
        "int staves()",
        "int stave(int,char) IndexOutOfBoundsException,IllegalArgumentException",
        "char isWhere(int) IndexOutOfBoundsException",
        "int stacked()",
        "int inStack(int) NoSuchElementException",
        "int turnStack()",
        "int month(int,int) IllegalArgumentException",
        "int setJig(int) IllegalArgumentException",
        "int leastSum(int,int) IllegalArgumentException,NoSuchElementException",
        "int leastSumAnew(int,int) IllegalArgumentException,NoSuchElementException,UnsupportedOperationException",
        "int raise(int,int,int,int) IllegalArgumentException,IllegalStateException,NoSuchElementException,UnsupportedOperationException",
        "int size(int) IndexOutOfBoundsException",
        "int at(int,int) IndexOutOfBoundsException,NoSuchElementException",
        "int width(int,int,int) IndexOutOfBoundsException,NoSuchElementException,IllegalArgumentException",
        "int closing(int,int) IndexOutOfBoundsException,IllegalArgumentException",
        "int bend(int,int,int) IndexOutOfBoundsException,IllegalArgumentException,UnsupportedOperationException",
        "boolean isCracked(int,int) IndexOutOfBoundsException,NoSuchElementException",
        "int toast(int,int,int) IndexOutOfBoundsException,IllegalArgumentException,UnsupportedOperationException,IllegalStateException",
        "int toastAt(int,int,int) IndexOutOfBoundsException,NoSuchElementException,IllegalArgumentException",
        "int shave(int,int) IndexOutOfBoundsException,IllegalArgumentException,IllegalStateException",
        "int groove(int,int,int) IndexOutOfBoundsException,IllegalArgumentException,UnsupportedOperationException,IllegalStateException",
        "int cutHead(int) IllegalArgumentException,IllegalStateException",
        "boolean fit(int,int,int) IndexOutOfBoundsException,IllegalArgumentException,UnsupportedOperationException",
        "int drive(int,int,int) IndexOutOfBoundsException,IllegalArgumentException,UnsupportedOperationException",
        "int tightness(int,int) IndexOutOfBoundsException,IllegalArgumentException",
        "boolean leaks(int,int,int) IndexOutOfBoundsException,NoSuchElementException,IllegalArgumentException",
        "boolean tryAir(int,int,int) IndexOutOfBoundsException,IllegalArgumentException",
        "int findLeak(int) IndexOutOfBoundsException,NoSuchElementException",
        "int tries()",
        "boolean isWhole(int) IndexOutOfBoundsException",
        "int content(int) IndexOutOfBoundsException",
        "int contentBy(int,char) IndexOutOfBoundsException,IllegalArgumentException",
        "char closest(int) IndexOutOfBoundsException",
        "int fill(int) IndexOutOfBoundsException,UnsupportedOperationException",
        "int keep(int,int,int) IndexOutOfBoundsException,IllegalArgumentException,UnsupportedOperationException",
        "int within(int,char) IndexOutOfBoundsException,IllegalArgumentException",
        "int pour(int,int) IndexOutOfBoundsException,IllegalArgumentException,UnsupportedOperationException",
        "int vat(char) IllegalArgumentException",
        "int statement() NoSuchElementException",
        "int emptyVat()",
        "int taste(int) IndexOutOfBoundsException,ArithmeticException",
        "int replace(int,int,int) IndexOutOfBoundsException,NoSuchElementException,UnsupportedOperationException,IllegalStateException",
        "int originals(int) IndexOutOfBoundsException",
        "int events(int) IndexOutOfBoundsException",
        "char event(int,int) IndexOutOfBoundsException,NoSuchElementException",
        "int woods(int) IndexOutOfBoundsException",
        "long widths()",
        "float seasonedShare() ArithmeticException",
        "double meanLoss() ArithmeticException",
        "boolean isSound()"
    };

    public static void main(String[] args) {
        methods();
        otherMembers();
        Check.end();
    }

    private static void methods() {
        TreeSet<String> found = new TreeSet<>();
        TreeSet<String> hidden = new TreeSet<>();
        for (Method method : Staveyard.class.getDeclaredMethods()) {
            if (Modifier.isPrivate(method.getModifiers())) {
                hidden.add(method.getName());
            } else {
                found.add(signatureOf(method));
                Check.that("public " + method.getName(), method.getModifiers() == Modifier.PUBLIC);
            }
        }
        Check.same("the methods", found, new TreeSet<>(Arrays.asList(FACE)));
        for (String line : FACE) {
            String name = line.substring(line.indexOf(' ') + 1, line.indexOf('('));
            Check.that("a private method bears the name of " + name, !hidden.contains(name));
        }
    }

    private static void otherMembers() {
        Check.same("public and final", Staveyard.class.getModifiers(), Modifier.PUBLIC | Modifier.FINAL);
        Constructor<?>[] constructors = Staveyard.class.getDeclaredConstructors();
        Check.same("constructors", constructors.length, 1);
        Check.same("its parameters", constructors[0].getParameterCount(), 0);
        Check.same("it is public", constructors[0].getModifiers(), Modifier.PUBLIC);
        for (Field field : Staveyard.class.getDeclaredFields()) {
            Check.that("private " + field.getName(), Modifier.isPrivate(field.getModifiers()));
        }
    }

    private static String signatureOf(Method method) {
        StringBuilder text = new StringBuilder();
        text.append(method.getReturnType().getSimpleName()).append(' ').append(method.getName()).append('(');
        append(method.getParameterTypes(), text);
        text.append(')');
        if (method.getExceptionTypes().length > 0) {
            text.append(' ');
            append(method.getExceptionTypes(), text);
        }
        return text.toString();
    }

    private static void append(Class<?>[] types, StringBuilder text) {
        for (int index = 0; index < types.length; index++) {
            text.append(index == 0 ? "" : ",").append(types[index].getSimpleName());
        }
    }
}
