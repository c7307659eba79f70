import java.lang.reflect.Method;
import java.util.ArrayList;
import java.util.Arrays;
import java.util.Comparator;
import java.util.List;
import java.util.Random;

/** All promises at once: runs of drawn calls, each answered as PlainWall answers it. */
public final class ModelTest {
    private static final int RUNS = 1500;
    /** An object is used for 512 calls at most, of which a last text may take some fifty. */
    private static final int CALLS = 450;
    private static final int[] ODD = {Integer.MIN_VALUE, -1000000001, -2, -1, 0, 1, 5, 6, 60, 61, 99, 100, Integer.MAX_VALUE};

    private final Random random;
    private final SoupWall wall = new SoupWall();
    private final PlainWall plain = new PlainWall();
    private final List<String> calls = new ArrayList<>();
    private final boolean roomy;

    private ModelTest(int seed) {
        random = new Random(seed);
        roomy = random.nextBoolean();
    }

    public static void main(String[] args) throws Exception {
        Method[] methods = Arrays.stream(SoupWall.class.getDeclaredMethods())
                .filter(m -> java.lang.reflect.Modifier.isPublic(m.getModifiers()))
                .sorted(Comparator.comparing(Method::getName)).toArray(Method[]::new);
        for (int run = 0; run < RUNS; run++) {
            if (!new ModelTest(run).agrees(methods)) {
                break;
            }
        }
        Check.finish();
    }

    private boolean agrees(Method[] methods) throws Exception {
        boolean same = feedAndWall(false);
        while (calls.size() < CALLS && same) {
            if (random.nextInt(60) == 0) {
                same = feedAndWall(random.nextInt(3) > 0);
            } else {
                Method m = methods[random.nextInt(methods.length)];
                boolean rare = m.getName().equals("wall") || m.getName().equals("tear") || m.getName().equals("feed");
                same = rare && random.nextInt(20) > 0 || call(m, arguments(m));
            }
        }
        return same;
    }

    private boolean call(Method m, Object[] arguments) throws Exception {
        Method plainOne = PlainWall.class.getMethod(m.getName(), m.getParameterTypes());
        int got = (Integer) m.invoke(wall, arguments);
        int due = (Integer) plainOne.invoke(plain, arguments);
        String name = m.getName() + Arrays.toString(arguments);
        calls.add(name + " -> " + got);
        if (got != due) {
            Check.due(String.join("\n", calls) + "\n" + name, due, got);
        }
        return got == due;
    }

    private Object[] arguments(Method m) {
        Class<?>[] types = m.getParameterTypes();
        Object[] arguments = new Object[types.length];
        for (int i = 0; i < types.length; i++) {
            if (types[i] == boolean.class) {
                arguments[i] = random.nextBoolean();
            } else if (types[i] == long.class) {
                arguments[i] = random.nextLong();
            } else {
                arguments[i] = random.nextInt(25) == 0 ? ODD[random.nextInt(ODD.length)] : ordinary(m.getName(), i);
            }
        }
        if (m.getName().equals("attempt") && random.nextInt(8) > 0) {
            arguments[0] = (Integer) arguments[0] & (1 << ((Integer) arguments[1] & 15)) - 1;
        }
        return arguments;
    }

    private int ordinary(String name, int i) {
        switch (name + i) {
            case "told0": return random.nextInt(12);
            case "coin1": return random.nextInt(5);
            case "column1": return random.nextInt(9);
            case "buy2": case "buyer2": return 1 + random.nextInt(random.nextInt(9) == 0 ? 99 : 7);
            case "kick1": case "night0": case "keep0": case "goBack0": return random.nextInt(2);
            case "damp0": return random.nextInt(4) == 0 ? random.nextInt(10) : random.nextInt(2);
            case "wear0": return random.nextInt(10);
            case "stock1": case "tube1": return random.nextInt(random.nextInt(3) == 0 ? 61 : 6);
            case "price1": return 1 + random.nextInt(roomy ? 20 : 99);
            case "span1": return 1 + random.nextInt(roomy ? 20 : 99);
            case "span2": return 99 - random.nextInt(roomy ? 20 : 99);
            case "drift0": return 1 + random.nextInt(random.nextInt(9) == 0 ? 99 : 3);
            case "fewest1": case "fill0": return random.nextInt(6) - 1;
            case "best0": return random.nextInt(3);
            case "attempt0": return random.nextInt(256);
            case "attempt1": return 1 + random.nextInt(8);
            case "fits0": return 1 + random.nextInt(6);
            case "fits1": return random.nextInt(14) - 3;
            case "seed0": return random.nextInt(Integer.MAX_VALUE);
            case "feed0": return 1 + random.nextInt(8);
            default: return random.nextInt(roomy ? 3 : 5);
        }
    }

    private boolean feedAndWall(boolean spoilt) throws Exception {
        String text = text();
        if (spoilt) {
            for (int i = random.nextInt(3); i >= 0; i--) {
                text = spoil(text);
            }
        }
        boolean same = true;
        for (int from = 0; from < text.length() && same; from += 8) {
            String part = text.substring(from, Math.min(text.length(), from + 8));
            same = call(SoupWall.class.getMethod("feed", int.class, long.class),
                    new Object[] {part.length(), Check.bytesOf(part)});
        }
        return same && call(SoupWall.class.getMethod("wall"), new Object[0])
                && call(SoupWall.class.getMethod("fault"), new Object[0]);
    }

    private String text() {
        List<String> clauses = new ArrayList<>();
        int kinds = random.nextInt(8) == 0 ? random.nextInt(6) : 2 + random.nextInt(4);
        for (int i = 0; i < kinds; i++) {
            int value = 1 + random.nextInt(roomy ? 12 : 99);
            clauses.add("coin " + value + " " + (10 + random.nextInt(roomy ? 30 : 90)) + " "
                    + (random.nextInt(4) == 0 ? 55 + random.nextInt(6) : random.nextInt(5)) + ";");
        }
        int columns = random.nextInt(8) == 0 ? random.nextInt(6) : 2 + random.nextInt(4);
        for (int i = 0; i < columns; i++) {
            int a = 1 + random.nextInt(roomy ? 20 : 99);
            int b = a + random.nextInt(100 - a);
            clauses.add("column " + (1 + random.nextInt(roomy ? 20 : 99)) + " " + a + " " + b + " " + random.nextInt(61) + ";");
        }
        for (int i = random.nextInt(6); i > 0; i--) {
            clauses.add("slug " + (1 + random.nextInt(roomy ? 40 : 99)) + ";");
        }
        for (int c = 0; c < columns; c++) {
            if (random.nextInt(3) > 0) {
                clauses.add("kick " + c + " " + rhythm() + ";");
            }
        }
        return String.join(random.nextInt(4) == 0 ? " " : "", clauses);
    }

    private String rhythm() {
        StringBuilder s = new StringBuilder();
        for (int i = random.nextInt(4); i >= 0; i--) {
            s.append(random.nextBoolean() ? 'l' : 'r');
        }
        return s.toString();
    }

    private String spoil(String text) {
        int at = random.nextInt(text.length() + 1);
        int to = Math.min(text.length(), at + 1 + random.nextInt(random.nextInt(3) == 0 ? 12 : 2));
        String[] odd = {" ", "  ", "0", "00", "1", "100", "61", ";", "l", "r", "x", "lrlrlrl", "coin", "column", "slug",
            "kick", "kick 0 l;", "slug 5;", "coin 1 20 3;", "column 1 2 3 4;", "A", "\u00e9", "\u0000", "-", "\n"};
        switch (random.nextInt(4)) {
            case 0: return text.substring(0, at) + text.substring(to);
            case 1: return text.substring(0, at) + odd[random.nextInt(odd.length)] + text.substring(at);
            case 2: return text.substring(0, at) + odd[random.nextInt(odd.length)] + text.substring(to);
            default: return random.nextInt(3) == 0 ? text.substring(0, at) : text + odd[random.nextInt(odd.length)];
        }
    }
}
