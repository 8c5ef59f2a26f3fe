import java.lang.reflect.InvocationTargetException;
import java.lang.reflect.Method;
import java.util.ArrayList;
import java.util.Arrays;
import java.util.Comparator;
import java.util.List;
import java.util.Random;

/** Wild arguments in any state: nothing is thrown but by element, and a refusal changes nothing. */
public final class WildTest {
    private static final int RUNS = 300;
    private static final int[] EDGES = {
        Integer.MIN_VALUE, Integer.MIN_VALUE + 1, -1000, -129, -128, -2, -1, 0, 1, 2, 3, 4, 5, 6, 7, 8, 9, 10, 11,
        20, 21, 30, 31, 32, 60, 61, 99, 100, 101, 127, 128, 999, 1000, 1023, 1024, 32767, 32768, 65536,
        Integer.MAX_VALUE - 1, Integer.MAX_VALUE,
    };

    public static void main(String[] args) throws Exception {
        List<Method> methods = new ArrayList<>();
        for (Method m : OneIsOut.class.getDeclaredMethods()) {
            if (java.lang.reflect.Modifier.isPublic(m.getModifiers())) {
                methods.add(m);
            }
        }
        methods.sort(Comparator.comparing(Method::getName));
        long calls = 0;
        for (int seed = 1; seed <= RUNS; seed++) {
            calls += run(methods, new Random(seed));
        }
        System.out.println(calls + " wild calls, nothing thrown by itself");
    }

    private static long run(List<Method> methods, Random random) throws Exception {
        OneIsOut x = new OneIsOut();
        int bulbs = random.nextInt(11);
        for (int b = 0; b < bulbs; b++) {
            x.keep(0, 1, random.nextInt(8), random.nextInt(10));
            x.hangs(0);
        }
        x.row(1, random.nextInt(3), 99);
        for (int k = 0; k < 500; k++) {
            Method m = methods.get(random.nextInt(methods.size()));
            Object[] values = new Object[m.getParameterCount()];
            for (int i = 0; i < values.length; i++) {
                int luck = random.nextInt(4);
                values[i] = luck == 0 ? EDGES[random.nextInt(EDGES.length)]
                        : luck == 1 ? random.nextInt(100) : random.nextInt(luck == 2 ? 10 : 3);
            }
            String before = state(x);
            long answer = call(x, m, values);
            if ((answer < 0 && !before.equals(state(x))) && !m.getName().equals("element")) {
                fail(m, values, "was refused with " + answer + ", but changed something");
            }
        }
        return 500;
    }

    private static long call(OneIsOut x, Method m, Object[] values) throws Exception {
        try {
            return ((Number) m.invoke(x, values)).longValue();
        } catch (InvocationTargetException e) {
            Class<?> thrown = e.getCause().getClass();
            boolean told = thrown == IllegalArgumentException.class || thrown == IllegalStateException.class;
            if (!told || !m.getName().equals("element")) {
                e.getCause().printStackTrace(System.out);
                fail(m, values, "threw");
            }
            return 0;
        }
    }

    private static void fail(Method m, Object[] values, String what) {
        System.out.println(m.getName() + Arrays.toString(values) + " " + what);
        System.exit(1);
    }

    private static String state(OneIsOut x) {
        StringBuilder s = new StringBuilder();
        for (int what = 0; what < 8; what++) {
            s.append(x.count(what)).append(' ');
        }
        for (int b = 0; b < x.count(0); b++) {
            s.append(x.bulb(b, 0)).append(x.bulb(b, 1)).append(' ').append(x.bulb(b, 2)).append(' ');
        }
        for (int d = 0; d < 8; d++) {
            s.append(x.cost(d)).append(' ');
        }
        return s.toString();
    }
}
