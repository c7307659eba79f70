import java.lang.reflect.InvocationTargetException;
import java.lang.reflect.Method;
import java.lang.reflect.Modifier;
import java.util.Arrays;
import java.util.Comparator;
import java.util.Random;

/** No call throws, whatever its arguments are and whatever was called ahead of it. */
public final class AnyCallTest {
    private static final int[] EDGES = {Integer.MIN_VALUE, Integer.MIN_VALUE + 1, -1000000004, -100, -9, -2, -1, 0, 1, 2, 3, 4, 5,
        6, 7, 8, 9, 10, 11, 12, 31, 32, 33, 59, 60, 61, 63, 64, 98, 99, 100, 101, 255, 256, 399, 400, Integer.MAX_VALUE};
    private static final String[] TEXTS = {"", "coin 1 20 3;", "column 1 1 99 60;", "coin 99 10 60;coin 1 99 60;coin 2 50 0;"
        + "coin 3 50 1;coin 5 60 2;column 1 1 99 60;column 99 1 99 60;column 9 1 99 60;column 8 1 99 60;column 7 1 99 60;"
        + "slug 1;slug 99;slug 50;slug 20;slug 21;kick 0 lrlrlr;kick 4 r;", "kick 0 l;", "column 5 5"};

    public static void main(String[] args) throws Exception {
        Method[] methods = Arrays.stream(SoupWall.class.getDeclaredMethods())
                .filter(m -> Modifier.isPublic(m.getModifiers()))
                .sorted(Comparator.comparing(Method::getName)).toArray(Method[]::new);
        Random random = new Random(1);
        for (int run = 0; run < 2000; run++) {
            SoupWall x = new SoupWall();
            Check.feed(x, TEXTS[random.nextInt(TEXTS.length)]);
            for (int i = 0; i < 400; i++) {
                Method m = methods[random.nextInt(methods.length)];
                if (!m.getName().equals("wall") || i == 0 || random.nextInt(20) == 0) {
                    call(x, m, arguments(m, random));
                }
                if (i == 2) {
                    x.wall();
                }
            }
        }
        Check.finish();
    }

    private static Object[] arguments(Method m, Random random) {
        Class<?>[] types = m.getParameterTypes();
        Object[] arguments = new Object[types.length];
        for (int i = 0; i < types.length; i++) {
            boolean low = random.nextInt(4) > 0;
            int edge = low ? random.nextInt(5) : EDGES[random.nextInt(EDGES.length)];
            arguments[i] = types[i] == boolean.class ? (Object) random.nextBoolean()
                    : types[i] == long.class ? (Object) random.nextLong() : (Object) edge;
        }
        return arguments;
    }

    private static void call(SoupWall x, Method m, Object[] arguments) throws Exception {
        try {
            m.invoke(x, arguments);
        } catch (InvocationTargetException thrown) {
            Check.holds(m.getName() + Arrays.toString(arguments) + " threw " + thrown.getCause(), false);
        }
    }
}
