import java.lang.reflect.InvocationTargetException;
import java.lang.reflect.Method;
import java.util.Arrays;
import java.util.Comparator;
import java.util.Random;

/** Runs of calls, the same each time, with arguments of all kinds: none throws, and each answers twice the same. */
public final class NeverThrowsTest {
    private static final int RUNS = 400, CALLS = 512;
    private static final int[] ENDS = {Integer.MIN_VALUE, Integer.MIN_VALUE + 1, -65536, -1000, -129, -2, -1, 5, 12, 13, 23, 24, 25, 30,
        31, 59, 60, 61, 99, 100, 101, 116, 119, 120, 121, 255, 256, 399, 400, 999, 1000, 1001, 65536, Integer.MAX_VALUE - 1, Integer.MAX_VALUE};
    private static final String[] TEXTS = {"t1/1", "t2/3;y1/6;n1/6", "t18/19;u1/19", "y1/1", "t1/2;n1/2", "o1/2;y1/2", "t1/2", "u1/1", ""};

    public static void main(String[] args) throws IllegalAccessException {
        Method[] calls = SecretLots.class.getDeclaredMethods();
        calls = Arrays.stream(calls).filter(m -> java.lang.reflect.Modifier.isPublic(m.getModifiers())).toArray(Method[]::new);
        Arrays.sort(calls, Comparator.comparing(Method::getName));
        for (int run = 0; run < RUNS; run++) {
            Check.due("run " + run + " again", run(run, calls), run(run, calls));
        }
        Check.end("NeverThrowsTest");
    }

    private static long run(int seed, Method[] calls) throws IllegalAccessException {
        Random random = new Random(seed);
        String[] texts = new String[4];
        for (int d = 0; d < 4; d++) {
            texts[d] = TEXTS[random.nextInt(TEXTS.length)];
        }
        SecretLots x = Check.with(texts);
        int made = x.count(4) + 1;
        long told = 0;
        for (int i = made; i < CALLS; i++) {
            Method call = calls[random.nextInt(calls.length)];
            Object[] with = new Object[call.getParameterCount()];
            for (int a = 0; a < with.length; a++) {
                with[a] = argument(random);
            }
            try {
                told = 31 * told + ((Number) call.invoke(x, with)).longValue();
            } catch (InvocationTargetException e) {
                Check.due("run " + seed + ": " + call.getName() + Arrays.toString(with) + " threw " + e.getCause(), 1, 0);
            }
        }
        return told;
    }

    private static int argument(Random random) {
        int kind = random.nextInt(10);
        if (kind < 7) {
            return random.nextInt(kind == 0 ? 24 : 4);
        }
        return kind < 9 ? ENDS[random.nextInt(ENDS.length)] : random.nextInt();
    }
}
