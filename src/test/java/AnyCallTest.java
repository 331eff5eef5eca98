import java.lang.reflect.InvocationTargetException;
import java.lang.reflect.Method;
import java.util.Arrays;
import java.util.Comparator;
import java.util.Random;

/**
 * Any arguments in any state: a call answers, or throws one of the classes that the face names for it, never one of
 * the machine's; and the same calls give the same answers on another object.
 */
public final class AnyCallTest extends Due {
    private static final int RUNS = 20;
    // What a call answers behind the 512th is free, but it ends and throws nothing by itself there either.
    private static final int CALLS = 10_000;
    private static final int[] EDGES = {
        Integer.MIN_VALUE, Integer.MIN_VALUE + 1, -1_000_000, -100_000, -10_000, -10, -2, -1, 10, 19, 20, 21, 39, 40,
        99, 100, 101, 4_999, 5_000, 5_001, 9_999, 10_000, 99_999, 100_000, 999_999, 1_000_000, 10_000_000,
        1_000_000_000, Integer.MAX_VALUE - 1, Integer.MAX_VALUE,
    };

    private final Random random;
    private final Method[] face;

    private AnyCallTest(int seed) {
        random = new Random(seed);
        face = Arrays.stream(VehicleChecks.class.getDeclaredMethods())
            .filter(m -> java.lang.reflect.Modifier.isPublic(m.getModifiers()))
            .sorted(Comparator.comparing(Method::getName)).toArray(Method[]::new);
    }

    public static void main(String[] args) {
        for (int seed = 0; seed < RUNS; seed++) {
            new AnyCallTest(seed).run();
        }
        end();
    }

    private void run() {
        VehicleChecks one = new VehicleChecks();
        VehicleChecks twin = new VehicleChecks();
        VehicleChecks stranger = new VehicleChecks();
        int wildOf = 1 + random.nextInt(8);
        for (int i = 0; i < CALLS; i++) {
            Method m = face[random.nextInt(face.length)];
            Object[] a = arguments(m, wildOf);
            String text = m.getName() + Arrays.toString(a) + " ";
            String got = outcome(one, m, a);
            compare(text + got, text + outcome(twin, m, a));
            Method others = face[random.nextInt(face.length)];
            outcome(stranger, others, arguments(others, wildOf));
        }
    }

    private Object[] arguments(Method m, int wildOf) {
        Class<?>[] types = m.getParameterTypes();
        Object[] a = new Object[types.length];
        for (int i = 0; i < a.length; i++) {
            a[i] = types[i] == boolean.class ? (Object) random.nextBoolean() : (Object) number(wildOf);
        }
        return a;
    }

    private int number(int wildOf) {
        if (random.nextInt(wildOf) != 0) {
            return random.nextInt(10);
        }
        return random.nextBoolean() ? EDGES[random.nextInt(EDGES.length)] : random.nextInt();
    }

    private static String outcome(VehicleChecks object, Method m, Object[] a) {
        try {
            return String.valueOf(m.invoke(object, a));
        } catch (InvocationTargetException e) {
            Class<?> thrown = e.getCause().getClass();
            boolean named = Arrays.asList(m.getExceptionTypes()).contains(thrown);
            compare(m.getName() + " throws what its face names", m.getName()
                + (named ? " throws what its face names" : " throws " + e.getCause()));
            return thrown.getName();
        } catch (IllegalAccessException e) {
            return "no call: " + e;
        }
    }
}
