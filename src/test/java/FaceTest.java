import java.lang.reflect.Constructor;
import java.lang.reflect.Field;
import java.lang.reflect.Method;
import java.lang.reflect.Modifier;
import java.util.Set;
import java.util.TreeSet;

/** The class shows the document's face, and nothing else; and a new object is small. */
public final class FaceTest {
    private static final String[] FACE = {
        "int clear()",
        "int addGate(int, int) IllegalArgumentException IllegalStateException",
        "int addProduct(int, int, int, int, int, int) IllegalArgumentException IllegalStateException",
        "int gate(int, int) IndexOutOfBoundsException IllegalArgumentException",
        "int product(int, int) IndexOutOfBoundsException IllegalArgumentException",
        "int way(int, int) IndexOutOfBoundsException",
        "int advance(int) IllegalArgumentException IllegalStateException",
        "int system(int) IllegalArgumentException",
        "boolean setClosed(int, boolean) IndexOutOfBoundsException",
        "int closedMinutes(int, int) IndexOutOfBoundsException IllegalArgumentException",
        "boolean isClosedDay(int, int) IndexOutOfBoundsException IllegalArgumentException",
        "int sell(int) IndexOutOfBoundsException IllegalStateException",
        "int pass(int, int) IndexOutOfBoundsException UnsupportedOperationException",
        "int reason(int, int) IndexOutOfBoundsException",
        "int openGates(int) IndexOutOfBoundsException",
        "int refusal(int) IllegalStateException NoSuchElementException",
        "int block(int, boolean) IndexOutOfBoundsException IllegalStateException",
        "int replace(int) IndexOutOfBoundsException IllegalStateException",
        "int card(int, int) IndexOutOfBoundsException IllegalArgumentException",
        "int ride(int, int, boolean) IndexOutOfBoundsException NoSuchElementException",
        "int refundable(int) IndexOutOfBoundsException",
        "int refund(int) IndexOutOfBoundsException IllegalStateException",
        "int share(int, int) IndexOutOfBoundsException",
        "int partner(int, int) IndexOutOfBoundsException IllegalArgumentException",
        "int account(int) IllegalArgumentException",
        "double meanRides() ArithmeticException",
        "float closedShare(int) IndexOutOfBoundsException ArithmeticException",
        "boolean isConsistent()",
        "int append(int) IllegalArgumentException IllegalStateException",
        "int read() IllegalArgumentException UnsupportedOperationException",
        "int errorPosition() NoSuchElementException",
        "int refusedOrder() NoSuchElementException",
        "int undo() IllegalStateException",
        "int snapshot()",
        "int restore() IllegalStateException",
    };

    public static void main(String[] args) throws IllegalAccessException {
        Check check = new Check("FaceTest");
        check.begin("methods");
        check.due(new TreeSet<>(Set.of(FACE)), shownMethods());
        check.begin("private names");
        check.due(new TreeSet<String>(), privateMethodsWithPublicNames());
        check.begin("members");
        check.due(true, Modifier.isFinal(SkiPasses.class.getModifiers()));
        check.due(1, SkiPasses.class.getDeclaredConstructors().length);
        for (Constructor<?> constructor : SkiPasses.class.getDeclaredConstructors()) {
            check.due(true, Modifier.isPublic(constructor.getModifiers()) && constructor.getParameterCount() == 0);
        }
        for (Field field : SkiPasses.class.getDeclaredFields()) {
            check.due(true, Modifier.isPrivate(field.getModifiers()));
        }
        for (Class<?> inside : SkiPasses.class.getDeclaredClasses()) {
            check.due(true, Modifier.isStatic(inside.getModifiers()) && !Modifier.isPublic(inside.getModifiers()));
        }
        check.end();
    }

    private static TreeSet<String> shownMethods() {
        TreeSet<String> shown = new TreeSet<>();
        for (Method method : SkiPasses.class.getDeclaredMethods()) {
            if (!Modifier.isPrivate(method.getModifiers())) {
                shown.add(told(method));
            }
        }
        return shown;
    }

    private static TreeSet<String> privateMethodsWithPublicNames() {
        TreeSet<String> names = new TreeSet<>();
        for (String line : FACE) {
            names.add(line.substring(line.indexOf(' ') + 1, line.indexOf('(')));
        }
        TreeSet<String> twice = new TreeSet<>();
        for (Method method : SkiPasses.class.getDeclaredMethods()) {
            if (Modifier.isPrivate(method.getModifiers()) && names.contains(method.getName())) {
                twice.add(method.getName());
            }
        }
        for (Class<?> inside : SkiPasses.class.getDeclaredClasses()) {
            for (Method method : inside.getDeclaredMethods()) {
                if (names.contains(method.getName())) {
                    twice.add(inside.getSimpleName() + "." + method.getName());
                }
            }
        }
        return twice;
    }

    private static String told(Method method) {
        StringBuilder line = new StringBuilder();
        line.append(method.getReturnType().getSimpleName()).append(' ').append(method.getName()).append('(');
        String comma = "";
        for (Class<?> type : method.getParameterTypes()) {
            line.append(comma).append(type.getSimpleName());
            comma = ", ";
        }
        line.append(')');
        for (Class<?> type : method.getExceptionTypes()) {
            line.append(' ').append(type.getSimpleName());
        }
        return line.toString();
    }
}
