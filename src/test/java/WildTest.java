import java.lang.reflect.InvocationTargetException;
import java.lang.reflect.Method;
import java.util.ArrayList;
import java.util.Comparator;
import java.util.List;
import java.util.Random;

/**
 * Calls with any arguments in any state: none throws, and what is refused changes nothing. To see the latter an object
 * is asked more than 512 times: the document leaves free what it answers then, and this class answers on.
 */
public final class WildTest {
    private static final int[] WILD = {Integer.MIN_VALUE, Integer.MIN_VALUE + 1, -1000, -8, -6, -5, -4, -3, -2, -1, 0, 1,
        2, 3, 4, 5, 6, 7, 8, 9, 10, 16, 17, 23, 24, 119, 120, 719, 720, 1000, 1001, 5039, 5040, 9999, 10000,
        Integer.MAX_VALUE};
    private static final String[] TEXTS = {"hall 2", "hall 3;tiring 0;did 0 0", "hall 5;holy 4;did 4 4;ring 2", "hall 6",
        "hall 7;ring 2;like 0 6 9;like 6 0 9", "ring 0", "skill 0 0 0;skill 0 1 0", "ring 3;like 0 1 9", "sweet 1;did 1 1"};
    private static final Check CHECK = new Check();
    private static final List<Method> CALLS = new ArrayList<>();

    public static void main(String[] args) throws IllegalAccessException {
        for (Method method : DutiesHat.class.getDeclaredMethods()) {
            if (java.lang.reflect.Modifier.isPublic(method.getModifiers())) {
                CALLS.add(method);
            }
        }
        CALLS.sort(Comparator.comparing(Method::getName));
        for (int seed = 0; seed < 150; seed++) {
            run(new Random(seed), seed);
        }
        CHECK.end();
    }

    private static void run(Random random, int seed) throws IllegalAccessException {
        DutiesHat x = new DutiesHat();
        for (int i = 0; i < 512; i++) {
            if (random.nextInt(40) == 0) {
                x.erase();
                Check.write(x, TEXTS[random.nextInt(TEXTS.length)]);
                x.hall();
            }
            if (random.nextInt(5) == 0) {
                x.draw(1 + random.nextInt(9999));
            }
            Method call = CALLS.get(random.nextInt(CALLS.size()));
            Object[] with = arguments(call, random);
            long[] ahead = stateOf(x);
            try {
                long answer = ((Number) call.invoke(x, with)).longValue();
                if (answer < -1) {
                    CHECK.isTrue("nothing changes by a refused " + call.getName(),
                            java.util.Arrays.equals(ahead, stateOf(x)));
                }
            } catch (InvocationTargetException thrown) {
                thrown.getCause().printStackTrace(System.out);
                CHECK.isTrue("seed " + seed + ": no throw in " + call, false);
            }
        }
        CHECK.isTrue("seed " + seed, true);
    }

    private static Object[] arguments(Method call, Random random) {
        Object[] with = new Object[call.getParameterCount()];
        for (int i = 0; i < with.length; i++) {
            if (call.getParameterTypes()[i] == long.class) {
                with[i] = random.nextLong();
            } else {
                with[i] = random.nextBoolean() ? WILD[random.nextInt(WILD.length)] : (Integer) (random.nextInt(5) - 1);
            }
        }
        return with;
    }

    /** All that can be asked for cheaply. */
    private static long[] stateOf(DutiesHat x) {
        long[] state = new long[5 + 3 + 14 + 98 + 49];
        int at = 0;
        for (int what = 0; what < 5; what++) {
            state[at++] = x.count(what);
        }
        for (int what = 0; what < 3; what++) {
            state[at++] = x.today(what);
        }
        for (int m = 0; m < 7; m++) {
            state[at++] = x.has(m, 0);
            state[at++] = x.has(m, 1);
            for (int d = 0; d < 7; d++) {
                state[at++] = x.monk(m, d, 0);
                state[at++] = x.monk(m, d, 1);
                state[at++] = x.often(m, d);
            }
        }
        return state;
    }
}
