import java.lang.reflect.InvocationTargetException;
import java.lang.reflect.Method;
import java.lang.reflect.Modifier;
import java.util.Random;

/** No call throws, whatever its arguments are and whatever was called before. */
public final class AnyCallTest {
    private static final int[] EDGES = {
        Integer.MIN_VALUE, Integer.MIN_VALUE + 1, -9999, -2, -1, 0, 1, 2, 3, 4, 5, 7, 8, 9, 10, 12, 13, 14, 15, 16,
        20, 23, 24, 31, 32, 33, 39, 40, 41, 47, 48, 63, 64, 98, 99, 100, 101, 299, 300, 301, 399, 400, 401,
        1023, 1024, 9599, 9600, 16384, 0x64756520, 0x313b2020, Integer.MAX_VALUE - 1, Integer.MAX_VALUE,
    };
    private static final int CALLS = 380;

    private final Random random;

    private AnyCallTest(long seed) {
        random = new Random(seed);
    }

    public static void main(String[] args) throws IllegalAccessException {
        Due.promise(0, "no call throws");
        Twins.Making[] makings = {x -> { }, Twins::rich, Twins::full, Twins::desert, AnyCallTest::atTheEnd};
        for (int seed = 0; seed < 40; seed++) {
            for (Twins.Making making : makings) {
                new AnyCallTest(seed).run(making);
            }
        }
        Due.close();
    }

    private static void atTheEnd(NoonBasins x) {
        x.basin(9, 99, 99);
        x.siphon(0, NoonBasins.NONE, 9, 0, 1, 0);
        for (int i = 0; i < 95; i++) {
            x.ticks(100);
        }
        x.ticks(99);
        x.image();
    }

    private void run(Twins.Making making) throws IllegalAccessException {
        NoonBasins x = new NoonBasins();
        making.of(x);
        Method[] methods = NoonBasins.class.getDeclaredMethods();
        java.util.Arrays.sort(methods, java.util.Comparator.comparing(Method::getName));
        for (int i = 0; i < CALLS; i++) {
            Method m = methods[random.nextInt(methods.length)];
            if (Modifier.isPublic(m.getModifiers())) {
                call(x, m);
            }
        }
    }

    private void call(NoonBasins x, Method m) throws IllegalAccessException {
        Class<?>[] kinds = m.getParameterTypes();
        Object[] arguments = new Object[kinds.length];
        for (int i = 0; i < kinds.length; i++) {
            if (kinds[i] == boolean.class) {
                arguments[i] = random.nextBoolean();
            } else {
                // Small ones often, so that calls are taken and not just refused.
                arguments[i] = random.nextBoolean() ? random.nextInt(6) : EDGES[random.nextInt(EDGES.length)];
            }
        }
        try {
            m.invoke(x, arguments);
            Due.holds(m.getName(), true);
        } catch (InvocationTargetException e) {
            Due.holds(m.getName() + java.util.Arrays.toString(arguments) + " throws " + e.getCause(), false);
        }
    }
}
