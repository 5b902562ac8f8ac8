import java.lang.reflect.Constructor;
import java.lang.reflect.Field;
import java.lang.reflect.Method;
import java.lang.reflect.Modifier;
import java.util.Arrays;
import java.util.Set;
import java.util.TreeSet;
import java.util.stream.Collectors;

/** The public face is the document's, with its exceptions, and nothing else is to be seen from outside. */
public final class FaceTest {
    private static final String FACE = """
        int wheel(int int int) IllegalStateException IllegalArgumentException
        boolean row(int int) IndexOutOfBoundsException IllegalArgumentException
        int pulse(int int int) IllegalArgumentException IndexOutOfBoundsException NoSuchElementException
        int tear(int int) IndexOutOfBoundsException NoSuchElementException
        int pulses(int int) IndexOutOfBoundsException
        int tariff(int) IllegalArgumentException
        int set(int int int) IllegalStateException IndexOutOfBoundsException NoSuchElementException IllegalArgumentException
        int number(int int) IndexOutOfBoundsException NoSuchElementException
        int slot(int int int) IndexOutOfBoundsException IllegalArgumentException NoSuchElementException
        int kind(int) IndexOutOfBoundsException
        int seal()
        boolean breaks(int) IndexOutOfBoundsException
        boolean blow(int) IndexOutOfBoundsException NoSuchElementException IllegalArgumentException
        boolean sets(int) IndexOutOfBoundsException
        int since(int) IndexOutOfBoundsException
        int hire(int int int int) IllegalStateException IndexOutOfBoundsException IllegalArgumentException NoSuchElementException
        int second() IllegalStateException
        int run(int) IllegalStateException IllegalArgumentException
        boolean hand(int) IllegalStateException IndexOutOfBoundsException IllegalArgumentException NoSuchElementException
        int extra(int) IllegalStateException IllegalArgumentException
        long end(int) IllegalStateException IllegalArgumentException
        long pay(long) IllegalStateException IllegalArgumentException
        long fare() NoSuchElementException
        int part(int) NoSuchElementException IllegalArgumentException
        int about(int) NoSuchElementException
        int dark(int) NoSuchElementException
        int receipt(int int) NoSuchElementException
        long again() IllegalStateException
        int leg(int int) IllegalArgumentException
        int clear()
        long should(int int int int int) IndexOutOfBoundsException IllegalArgumentException NoSuchElementException
        int error() IllegalStateException
        boolean within(int int) IllegalStateException IllegalArgumentException
        int keep() IllegalStateException
        int back() IllegalStateException
        """;

    public static void main(String[] args) {
        Class<?> face = FareClock.class;
        same("modifiers", Modifier.toString(face.getModifiers()), "public final");
        same("NONE", String.valueOf(FareClock.NONE), "-1");
        Set<String> methods = new TreeSet<>();
        for (Method method : face.getDeclaredMethods()) {
            if (!Modifier.isPrivate(method.getModifiers())) {
                same(method.getName(), Modifier.toString(method.getModifiers()), "public");
                methods.add(told(method));
            }
        }
        same("methods", methods.toString(), new TreeSet<>(FACE.lines().toList()).toString());
        Set<String> fields = new TreeSet<>();
        for (Field field : face.getDeclaredFields()) {
            if (!Modifier.isPrivate(field.getModifiers())) {
                fields.add(field.toString());
            }
        }
        same("fields", fields.toString(), "[public static final int FareClock.NONE]");
        Constructor<?>[] made = face.getDeclaredConstructors();
        same("constructors", Arrays.toString(made), "[public FareClock()]");
        Bench.close();
    }

    private static String told(Method method) {
        String types = Arrays.stream(method.getParameterTypes()).map(Class::getSimpleName).collect(Collectors.joining(" "));
        String thrown = Arrays.stream(method.getExceptionTypes()).map(e -> " " + e.getSimpleName()).collect(Collectors.joining());
        return method.getReturnType().getSimpleName() + " " + method.getName() + "(" + types + ")" + thrown;
    }

    private static void same(String title, String got, String due) {
        if (!got.equals(due)) {
            Bench.fail(title, got + ", due is " + due);
        }
    }
}
