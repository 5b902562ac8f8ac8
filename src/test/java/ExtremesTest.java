import java.lang.reflect.Method;
import java.lang.reflect.Modifier;
import java.util.ArrayList;
import java.util.Comparator;
import java.util.List;
import java.util.Map;

/**
 * Every call of the face in every state of States, with all combinations of arguments at, next to and far from the
 * limits that the document names, against the model. What the machine itself would throw has other names than the model
 * answers, and so is seen here, too.
 */
public final class ExtremesTest {
    private static final int LEAST = Integer.MIN_VALUE;
    private static final int GREATEST = Integer.MAX_VALUE;
    /** By how many arguments a call has; the more it has, the fewer of each. */
    private static final int[][] VALUES = {
        {},
        {
            LEAST, LEAST + 1, -2, -1, 0, 1, 2, 3, 4, 5, 6, 7, 11, 12, 13, 16, 17, 18, 38, 39, 40, 41, 59, 60, 61, 63, 64, 98, 99, 100, 500, 3839, 3840, 3841,
            9999, 10000, 10001, 999999, 1000000, 1000001, GREATEST - 1, GREATEST
        },
        {LEAST, -1, 0, 1, 3, 4, 5, 8, 11, 12, 14, 15, 59, 60, 61, 63, 64, 1000000, 1000001, GREATEST},
        {LEAST, -1, 0, 1, 2, 3, 9, 11, 12, 15, 20, 21, 200, 201, 500, 501, GREATEST},
        {LEAST, -1, 0, 3, 5, 6, 12, 59, 60, 99, 100, 1439, 1440, GREATEST},
        {LEAST, -1, 0, 12, 60, 100, 1440, GREATEST},
    };

    public static void main(String[] args) {
        for (Map.Entry<String, List<String>> state : States.all().entrySet()) {
            for (Method method : face()) {
                new ExtremesTest(state.getKey(), state.getValue(), method).go();
            }
        }
        Bench.close();
    }

    private final String state;
    private final List<String> calls;
    private final Method method;
    private FareClock clock;
    private Model model;
    private int count;
    private int wrong;

    private ExtremesTest(String state, List<String> calls, Method method) {
        this.state = state;
        this.calls = calls;
        this.method = method;
    }

    private static List<Method> face() {
        List<Method> face = new ArrayList<>();
        for (Method method : FareClock.class.getDeclaredMethods()) {
            if (Modifier.isPublic(method.getModifiers())) {
                face.add(method);
            }
        }
        face.sort(Comparator.comparing(Method::getName));
        return face;
    }

    private void go() {
        int n = method.getParameterCount();
        int[] values = VALUES[n];
        long combinations = 1;
        for (int i = 0; i < n; i++) {
            combinations *= values.length;
        }
        for (long c = 0; c < combinations && wrong < 3; c++) {
            long left = c;
            long[] args = new long[n];
            for (int i = 0; i < n; i++) {
                args[i] = values[(int) (left % values.length)];
                left /= values.length;
            }
            renewAtTheLimit();
            one(args);
        }
    }

    private void renewAtTheLimit() {
        if (clock != null && count < 512) {
            return;
        }
        clock = new FareClock();
        model = new Model();
        for (String call : calls) {
            States.answer(clock, call);
            States.answer(model, call);
        }
        count = calls.size();
    }

    private void one(long[] args) {
        count++;
        String due = Calls.answer(model, method.getName(), args);
        String got = Calls.answer(clock, method.getName(), args);
        if (!due.equals(got)) {
            wrong++;
            StringBuilder call = new StringBuilder(method.getName());
            for (long arg : args) {
                call.append(' ').append(arg);
            }
            Bench.fail(state, call + " = " + due + ", but it answered " + got);
        }
    }
}
