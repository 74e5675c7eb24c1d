import java.lang.reflect.InvocationTargetException;
import java.lang.reflect.Method;
import java.lang.reflect.Modifier;
import java.util.Arrays;
import java.util.Comparator;
import java.util.NoSuchElementException;
import java.util.Random;

/** Any arguments in any state: a call answers, or throws one of the two exceptions that its head names. */
public final class WildTest {
    private static final int[] EDGES = {Integer.MIN_VALUE, Integer.MIN_VALUE + 1, -100, -3, -2, -1, 0, 1, 2, 3, 4, 5, 6, 7, 8, 9,
        10, 11, 20, 21, 30, 31, 32, 40, 41, 63, 64, 99, 100, 127, 128, 255, 256, 500, 501, 65535, 65536, 1 << 30,
        Integer.MAX_VALUE - 1, Integer.MAX_VALUE};

    public static void main(String[] args) throws IllegalAccessException {
        Method[] methods = Arrays.stream(RiddleDoors.class.getDeclaredMethods())
            .filter(m -> Modifier.isPublic(m.getModifiers()))
            .sorted(Comparator.comparing(Method::getName)).toArray(Method[]::new);
        for (long seed = 0; seed < 60; seed++) {
            Random random = new Random(seed);
            Riddler riddler = new Riddler(seed);
            RiddleDoors doors = new RiddleDoors();
            for (int i = 0; i < 480; i++) {
                if (i % 60 == 0) {
                    Check.tell(doors, riddler.street());
                }
                call(doors, methods[random.nextInt(methods.length)], random);
            }
        }
        Check.end();
    }

    private static void call(RiddleDoors doors, Method method, Random random) throws IllegalAccessException {
        Class<?>[] types = method.getParameterTypes();
        Object[] given = new Object[types.length];
        for (int i = 0; i < types.length; i++) {
            int edge = random.nextInt(3) == 0 ? EDGES[random.nextInt(EDGES.length)] : random.nextInt(4);
            given[i] = types[i] == boolean.class ? (Object) random.nextBoolean()
                : types[i] == long.class ? (Object) (random.nextBoolean() ? edge : random.nextLong()) : (Object) edge;
            if (types[i] == long.class) {
                given[i] = ((Number) given[i]).longValue();
            }
        }
        boolean good = true;
        try {
            method.invoke(doors, given);
        } catch (InvocationTargetException e) {
            Class<?> thrown = e.getCause().getClass();
            good = (thrown == NoSuchElementException.class || thrown == IllegalArgumentException.class)
                && Arrays.asList(method.getExceptionTypes()).contains(thrown);
            if (!good) {
                e.getCause().printStackTrace(System.out);
            }
        }
        Check.due(method.getName() + Arrays.toString(given) + " answers or throws what it may", good, true);
    }
}
