import java.lang.reflect.InvocationTargetException;
import java.lang.reflect.Method;
import java.lang.reflect.Modifier;
import java.util.ArrayList;
import java.util.Arrays;
import java.util.Comparator;
import java.util.List;
import java.util.Random;

/** For all promises: no call throws, refused calls change nothing, and the same calls give the same answers. */
public final class EdgeTest {

    private static final int[] EDGES = {Integer.MIN_VALUE, -4, -3, -2, -1, 0, 1, 2, 3, 4, 5, 7, 8, 9, 12, 13, 24, 25, 40, 41, 255,
        256, 399, 400, 401, 511, 512, 2000, 2001, Integer.MAX_VALUE};
    private static final List<Method> CALLS = calls();

    public static void main(String[] args) {
        Bench.run(EdgeTest.class);
    }

    private static List<Method> calls() {
        List<Method> all = new ArrayList<>();
        for (Method m : PasskeyHouse.class.getDeclaredMethods()) {
            if (Modifier.isPublic(m.getModifiers())) {
                all.add(m);
            }
        }
        all.sort(Comparator.comparing(Method::getName));
        return all;
    }

    @Sentence("All promises: no call throws, and the same calls give the same answers")
    static void sameAnswers() {
        for (int seed = 0; seed < 300; seed++) {
            Bench.holds("seed " + seed, run(seed).equals(run(seed)));
        }
    }

    @Sentence("All promises: A call that is refused (NONE, false) changes nothing")
    static void refusedCalls() {
        int refused = 0;
        for (int seed = 0; seed < 400; seed++) {
            refused += refusal(seed) ? 1 : 0;
        }
        Bench.holds("some calls were refused: " + refused, refused > 100);
    }

    private static int number(Random dice) {
        int sort = dice.nextInt(10);
        return sort < 6 ? dice.nextInt(5) - 1 : sort < 9 ? EDGES[dice.nextInt(EDGES.length)] : dice.nextInt();
    }

    private static Object[] arguments(Method m, Random dice) {
        Class<?>[] types = m.getParameterTypes();
        Object[] all = new Object[types.length];
        for (int i = 0; i < all.length; i++) {
            if (types[i] == int.class) {
                all[i] = number(dice);
            } else if (types[i] == long.class) {
                all[i] = dice.nextBoolean() ? dice.nextLong() : (long) dice.nextInt(5);
            } else {
                all[i] = dice.nextBoolean();
            }
        }
        return all;
    }

    private static Object call(PasskeyHouse x, Method m, Object[] arguments) {
        try {
            return m.invoke(x, arguments);
        } catch (InvocationTargetException | IllegalAccessException e) {
            Bench.holds(m.getName() + Arrays.toString(arguments) + " threw " + e.getCause(), false);
            return null;
        }
    }

    private static Object anyCall(PasskeyHouse x, Random dice) {
        Method m = CALLS.get(dice.nextInt(CALLS.size()));
        return call(x, m, arguments(m, dice));
    }

    private static String run(int seed) {
        Random dice = new Random(seed);
        PasskeyHouse x = Twins.furnished();
        StringBuilder all = new StringBuilder();
        for (int i = 0; i < 300; i++) {
            all.append(anyCall(x, dice)).append(' ');
            if (dice.nextInt(20) == 0) {
                Bench.lay(x, noise(dice));
            }
        }
        return all.toString();
    }

    private static byte[] noise(Random dice) {
        byte[] all = new byte[dice.nextInt(40)];
        dice.nextBytes(all);
        if (all.length > 2) {
            all[0] = (byte) (1 + dice.nextInt(8));
            all[1] = (byte) (0xa0 + dice.nextInt(6));
        }
        return all;
    }

    /** A furnished house after some calls of any sort. */
    private static PasskeyHouse after(int seed) {
        Random dice = new Random(seed);
        PasskeyHouse x = Twins.furnished();
        int many = dice.nextInt(20);
        for (int i = 0; i < many; i++) {
            anyCall(x, dice);
        }
        return x;
    }

    /** Whether the call that comes then is refused; if so, looks that it has changed nothing. */
    private static boolean refusal(int seed) {
        Random dice = new Random(-1 - seed);
        Method m = CALLS.get(dice.nextInt(CALLS.size()));
        Object[] arguments = arguments(m, dice);
        Object got = call(after(seed), m, arguments);
        boolean isNone = got instanceof Integer && ((Integer) got == PasskeyHouse.NONE || (Integer) got == PasskeyHouse.FOREIGN);
        boolean isFalse = Boolean.FALSE.equals(got) && !m.getName().equals("power");
        if (!isNone && !isFalse) {
            return false;
        }
        Bench.holds(m.getName() + Arrays.toString(arguments) + " changed nothing, seed " + seed, Twins.areAlike(() -> after(seed), () -> {
            PasskeyHouse x = after(seed);
            call(x, m, arguments);
            return x;
        }));
        return true;
    }
}
