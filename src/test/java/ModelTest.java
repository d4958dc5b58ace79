import java.lang.reflect.InvocationTargetException;
import java.lang.reflect.Method;
import java.lang.reflect.Modifier;
import java.util.ArrayList;
import java.util.Arrays;
import java.util.Comparator;
import java.util.List;

/** Long runs of calls, the same ones each time, with all answers as RingdaysModel gives them. */
public final class ModelTest {
    private static final Checks CHECKS = new Checks();
    private static final int RUNS = 300;
    private static final int CALLS = 512;
    private static final int[] EDGES = {
        0, 1, -1, 2, 3, 4, 5, 6, 7, 8, -7, 11, 12, 13, -12, 28, 29, 30, 31, 32, 84, -84, 1000000007,
        Integer.MAX_VALUE, Integer.MAX_VALUE - 1, Integer.MIN_VALUE, Integer.MIN_VALUE + 1
    };

    private static long seed;

    public static void main(String[] args) throws Exception {
        List<Method> face = face();
        for (int run = 1; run <= RUNS; run++) {
            seed = run;
            runOf(run, face);
        }
        CHECKS.end();
    }

    private static List<Method> face() {
        List<Method> face = new ArrayList<>();
        for (Method method : Ringdays.class.getDeclaredMethods()) {
            if (Modifier.isPublic(method.getModifiers())) {
                face.add(method);
            }
        }
        face.sort(Comparator.comparing(Method::getName));
        return face;
    }

    private static void runOf(int run, List<Method> face) throws Exception {
        Ringdays x = new Ringdays();
        RingdaysModel model = new RingdaysModel();
        // Half of the calls are digest(): it tells whether the call ahead of it left all as it is due.
        for (int call = 0; call < CALLS; call += 2) {
            Method method = face.get(next(face.size()));
            Object[] values = valuesFor(method);
            Object want = answer(model, RingdaysModel.class.getMethod(method.getName(), method.getParameterTypes()), values);
            String told = "run " + run + ", call " + call + ": " + method.getName() + Arrays.toString(values);
            CHECKS.due(told, want, answer(x, method, values));
            CHECKS.due("digest() behind " + told, model.digest(), x.digest());
        }
    }

    private static Object answer(Object on, Method method, Object[] values) throws Exception {
        try {
            return method.invoke(on, values);
        } catch (InvocationTargetException e) {
            return e.getCause().getClass();
        }
    }

    private static Object[] valuesFor(Method method) {
        Class<?>[] kinds = method.getParameterTypes();
        Object[] values = new Object[kinds.length];
        for (int place = 0; place < kinds.length; place++) {
            values[place] = kinds[place] == boolean.class ? (Object) (next(2) == 0) : (Object) wholeNumber(place);
        }
        return values;
    }

    private static int wholeNumber(int place) {
        int kind = next(20);
        if (kind == 0) {
            return EDGES[next(EDGES.length)];
        }
        if (place == 0) {
            return next(4);
        }
        if (kind < 6) {
            return EDGES[next(EDGES.length)];
        }
        return kind < 16 ? next(4) : kind < 18 ? next(14) : (int) (seed >>> 16);
    }

    private static int next(int below) {
        seed = seed * 6364136223846793005L + 1442695040888963407L;
        return (int) Long.remainderUnsigned(seed >>> 33, below);
    }
}
