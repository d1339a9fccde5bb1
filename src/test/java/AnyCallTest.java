import java.lang.reflect.Method;
import java.lang.reflect.Modifier;
import java.util.Arrays;
import java.util.Comparator;
import java.util.Random;

/** No call throws, whatever its arguments and the state, and each ends. */
public final class AnyCallTest {
    private static final int[] EDGES = {Integer.MIN_VALUE, Integer.MIN_VALUE + 1, -1000000001, -400, -17, -2, -1, 0, 1, 2, 3, 4, 5, 6,
        7, 8, 9, 10, 15, 16, 20, 31, 32, 33, 63, 64, 99, 100, 200, 399, 400, 401, 999, 1000, 1023, 1024, 1000000, 1000001, Integer.MAX_VALUE};

    private static Method[] calls() {
        Method[] calls = Arrays.stream(SunriseRoof.class.getDeclaredMethods())
            .filter(m -> Modifier.isPublic(m.getModifiers())).toArray(Method[]::new);
        Arrays.sort(calls, Comparator.comparing(Method::getName));
        return calls;
    }

    private static void call(SunriseRoof x, Method m, Random random) {
        Object[] given = new Object[m.getParameterCount()];
        for (int i = 0; i < given.length; i++) {
            int kind = random.nextInt(4);
            given[i] = kind == 0 ? random.nextInt() : kind == 1 ? EDGES[random.nextInt(EDGES.length)] : random.nextInt(8) - 1;
        }
        try {
            m.invoke(x, given);
        } catch (ReflectiveOperationException e) {
            Check.due(m.getName() + Arrays.toString(given) + " threw " + e.getCause(), 1, 0);
        }
    }

    /** The dearest state: all parts, all builders, a long law, nothing ever done. */
    private static SunriseRoof dear() {
        SunriseRoof x = new SunriseRoof();
        for (int p = 0; p < 10; p++) {
            x.part(99, 0, 0, 9);
        }
        for (int b = 0; b < 6; b++) {
            x.builder(15, 1);
        }
        Check.rule(x, "works 0 if hour>0-1 and [pace+tired*2]/3<1000 and not with>7;" + Check.times("bars if hour+tired>999;", 6)
            + "tires 1+1+1+1+1+1+1+1+1+1;shows 1+1+1+1+1+1;works hour/1000 if left>0");
        return x;
    }

    public static void main(String[] args) {
        Method[] calls = calls();
        Check.due("methods of the face", calls.length, 37);
        for (int seed = 0; seed < 300; seed++) {
            Random random = new Random(seed);
            SunriseRoof x = new SunriseRoof();
            if (seed % 100 == 99) {
                x = dear();
            }
            for (int i = 0; i < 512; i++) {
                call(x, calls[random.nextInt(calls.length)], random);
            }
            Check.due("it still answers", x.status() <= 0 ? 1 : 0, 1);
        }
        SunriseRoof x = dear();
        Check.due("plan", x.plan(-1), -1);
        Check.due("hands", x.hands(0), -1);
        Check.due("taught", x.taught(0), -1);
        Check.due("whose", x.whose(-1), 64);
        Check.due("look", x.look(1), 64);
        Check.due("nights", x.nights(3, 20), 0);
        Check.due("rows", x.rows(-1, 0), 3628800);
        Check.finish("AnyCallTest");
    }
}
