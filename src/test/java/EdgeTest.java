import java.lang.reflect.InvocationTargetException;
import java.lang.reflect.Method;
import java.lang.reflect.Modifier;
import java.util.ArrayList;
import java.util.Comparator;
import java.util.List;
import java.util.Random;

/** For all promises: no call throws, refused calls change nothing, and the same calls give the same answers. */
public final class EdgeTest {

    private static final int[] EDGES = {Integer.MIN_VALUE, -4, -3, -2, -1, 0, 1, 2, 3, 4, 5, 7, 8, 9, 12, 13, 24, 25, 40, 41, 255,
        256, 399, 400, 401, 511, 512, 2000, 2001, Integer.MAX_VALUE};

    public static void main(String[] args) throws IllegalAccessException {
        List<Method> calls = new ArrayList<>();
        for (Method m : PasskeyHouse.class.getDeclaredMethods()) {
            if (Modifier.isPublic(m.getModifiers())) {
                calls.add(m);
            }
        }
        calls.sort(Comparator.comparing(Method::getName));
        for (int seed = 0; seed < 300; seed++) {
            Bench.holds("the same answers, seed " + seed, run(calls, seed).equals(run(calls, seed)));
        }
        for (int seed = 0; seed < 40; seed++) {
            refused(calls, seed);
        }
        Bench.end();
    }

    private static int number(Random dice) {
        int sort = dice.nextInt(10);
        return sort < 6 ? dice.nextInt(5) - 1 : sort < 9 ? EDGES[dice.nextInt(EDGES.length)] : dice.nextInt();
    }

    private static Object[] arguments(Method m, Random dice) {
        Class<?>[] types = m.getParameterTypes();
        Object[] all = new Object[types.length];
        for (int i = 0; i < all.length; i++) {
            if (types[i] == int.class) {
                all[i] = number(dice);
            } else if (types[i] == long.class) {
                all[i] = dice.nextBoolean() ? dice.nextLong() : (long) dice.nextInt(5);
            } else {
                all[i] = dice.nextBoolean();
            }
        }
        return all;
    }

    private static Object call(PasskeyHouse x, Method m, Object[] arguments) throws IllegalAccessException {
        try {
            return m.invoke(x, arguments);
        } catch (InvocationTargetException e) {
            Bench.holds(m.getName() + java.util.Arrays.toString(arguments) + " threw " + e.getCause(), false);
            return null;
        }
    }

    /** A house in which there is something of everything. */
    private static PasskeyHouse furnished(Random dice) {
        PasskeyHouse x = new PasskeyHouse();
        x.key();
        x.key();
        Bench.lay(x, "a.exa.ex");
        x.party(4, 4);
        x.page(0, 4);
        x.page(1, 4);
        Bench.setPin(x, 0, 0, "1234");
        Bench.store(x, 1, "a.ex", "1");
        Bench.store(x, 1, "a.ex", "22");
        x.offer(0, 1, 1, false, false);
        x.press(1);
        Bench.lay(x, "a.ex");
        Bench.due("create", x.create(0, 1, 0, 0, 1, 1, 4, dice.nextInt(2)), 0);
        Bench.due("judge", x.judge(0, -1), 0);
        Bench.due("unlock", Bench.unlock(x, 0, 0, "1234"), 0);
        x.offer(0, 1, 1, true, dice.nextBoolean());
        x.cut(dice.nextInt(2), dice.nextInt(100));
        Bench.lay(x, "a.ex");
        return x;
    }

    private static String run(List<Method> calls, int seed) throws IllegalAccessException {
        Random dice = new Random(seed);
        PasskeyHouse x = furnished(dice);
        StringBuilder all = new StringBuilder();
        for (int i = 0; i < 450; i++) {
            Method m = calls.get(dice.nextInt(calls.size()));
            all.append(call(x, m, arguments(m, dice))).append(' ');
            if (dice.nextInt(20) == 0) {
                Bench.lay(x, noise(dice));
            }
        }
        return all.toString();
    }

    private static byte[] noise(Random dice) {
        byte[] all = new byte[dice.nextInt(40)];
        dice.nextBytes(all);
        if (all.length > 2) {
            all[0] = (byte) (1 + dice.nextInt(8));
            all[1] = (byte) (0xa0 + dice.nextInt(6));
        }
        return all;
    }

    private static void refused(List<Method> calls, int seed) throws IllegalAccessException {
        Random dice = new Random(seed);
        PasskeyHouse x = furnished(dice);
        for (int i = 0; i < 60; i++) {
            Method m = calls.get(dice.nextInt(calls.size()));
            Object[] arguments = arguments(m, dice);
            String before = Bench.seen(x);
            Object got = call(x, m, arguments);
            boolean isNone = got instanceof Integer && ((Integer) got == PasskeyHouse.NONE || (Integer) got == PasskeyHouse.FOREIGN);
            boolean isFalse = Boolean.FALSE.equals(got) && !m.getName().equals("power");
            Bench.holds(m.getName() + java.util.Arrays.toString(arguments) + " was refused and changed something",
                !(isNone || isFalse) || before.equals(Bench.seen(x)));
        }
    }
}
