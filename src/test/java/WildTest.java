import java.lang.reflect.InvocationTargetException;
import java.lang.reflect.Method;
import java.lang.reflect.Modifier;
import java.util.ArrayList;
import java.util.Comparator;
import java.util.List;
import java.util.Random;

/** Calls of the whole face with arguments of every size, in states of every size: none may throw. */
public final class WildTest {
    private static final int RUNS = 3000;
    private static final int CALLS = 512;
    private static final int[] EDGES = {-2, -1, 0, 1, 2, 3, 4, 5, 7, 8, 14, 15, 16, 31, 32, 40, 41, 99, 100, 160, 161,
        Integer.MAX_VALUE, Integer.MIN_VALUE};

    private final Random random;
    private final HistogramPlans x = new HistogramPlans();

    private WildTest(int run) {
        this.random = new Random(run);
    }

    public static void main(String[] args) throws IllegalAccessException {
        List<Method> face = new ArrayList<>();
        for (Method method : HistogramPlans.class.getDeclaredMethods()) {
            if (Modifier.isPublic(method.getModifiers())) {
                face.add(method);
            }
        }
        face.sort(Comparator.comparing(Method::getName));
        for (int run = 0; run < RUNS; run++) {
            new WildTest(run).play(face, run);
        }
        Due.end("WildTest");
    }

    private void play(List<Method> face, int run) throws IllegalAccessException {
        for (int call = 0; call < CALLS; call++) {
            int kind = random.nextInt(12);
            Method method = face.get(random.nextInt(face.size()));
            if (kind == 0) {
                x.drawn(1 + random.nextInt(40));
            } else if (kind == 1) {
                x.join(random.nextInt(15), random.nextInt(15));
            } else {
                wild("run " + run + ", call " + call + ", " + method.getName(), method);
            }
        }
    }

    private void wild(String what, Method method) throws IllegalAccessException {
        Object[] arguments = new Object[method.getParameterCount()];
        for (int i = 0; i < arguments.length; i++) {
            if (method.getParameterTypes()[i] == long.class) {
                arguments[i] = random.nextLong() >> random.nextInt(64);
            } else {
                arguments[i] = random.nextInt(3) == 0 ? EDGES[random.nextInt(EDGES.length)] : random.nextInt(6);
            }
        }
        try {
            method.invoke(x, arguments);
            Due.is(what, 0, 0);
        } catch (InvocationTargetException thrown) {
            Due.is(what + " threw " + thrown.getCause(), 0, 1);
        }
    }
}
