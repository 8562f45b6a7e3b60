import com.sun.management.ThreadMXBean;
import java.lang.management.ManagementFactory;
import java.lang.reflect.Array;
import java.lang.reflect.Field;
import java.lang.reflect.Modifier;
import java.util.ArrayDeque;
import java.util.Collections;
import java.util.Deque;
import java.util.IdentityHashMap;
import java.util.Set;

/** The room of a run: what an object is made of, and that its calls make nothing more. */
public final class RoomTest {
    private static final Check CHECK = new Check();
    private static final String TEXT = "hall 5;ring 2;tiring 0;holy 1;sweet 2;like 0 1 9;like 1 0 9;skill 2 3 0;did 0 0";

    public static void main(String[] args) throws IllegalAccessException {
        anObject();
        itsCalls();
        CHECK.end();
    }

    private static void anObject() throws IllegalAccessException {
        Set<Object> known = Collections.newSetFromMap(new IdentityHashMap<>());
        Deque<Object> waiting = new ArrayDeque<>();
        waiting.add(new DutiesHat());
        int parts = 0;
        while (!waiting.isEmpty()) {
            Object one = waiting.remove();
            if (known.add(one)) {
                parts += one.getClass().isArray() ? elements(one, waiting) : fields(one, waiting);
            }
        }
        CHECK.isTrue("an object is " + known.size() + " objects and arrays", known.size() <= 60);
        CHECK.isTrue("an object is " + parts + " fields and elements", parts <= 3000);
    }

    private static int elements(Object array, Deque<Object> waiting) {
        if (!array.getClass().getComponentType().isPrimitive()) {
            for (int i = 0; i < Array.getLength(array); i++) {
                waiting.add(Array.get(array, i));
            }
        }
        return Array.getLength(array);
    }

    private static int fields(Object one, Deque<Object> waiting) throws IllegalAccessException {
        int many = 0;
        for (Field field : one.getClass().getDeclaredFields()) {
            if (!Modifier.isStatic(field.getModifiers())) {
                many++;
                field.setAccessible(true);
                if (!field.getType().isPrimitive() && field.get(one) != null) {
                    waiting.add(field.get(one));
                }
            }
        }
        return many;
    }

    private static void itsCalls() {
        // A machine that does not count what a thread makes cannot be asked.
        if (!(ManagementFactory.getThreadMXBean() instanceof ThreadMXBean thread)
                || !thread.isThreadAllocatedMemorySupported() || !thread.isThreadAllocatedMemoryEnabled()) {
            return;
        }
        DutiesHat x = new DutiesHat();
        long[] packed = new long[TEXT.length() / 8 + 1];
        for (int i = 0; i < packed.length; i++) {
            packed[i] = Check.pack(TEXT, 8 * i);
        }
        long sum = 0;
        long ahead = 0;
        for (int round = 0; round < 2000; round++) {
            if (round == 200) {
                ahead = thread.getThreadAllocatedBytes(Thread.currentThread().getId());
            }
            sum += allCalls(x, packed, round);
        }
        long made = thread.getThreadAllocatedBytes(Thread.currentThread().getId()) - ahead;
        CHECK.isTrue("the calls answered " + sum, sum != 0);
        CHECK.due("the text was done: count(0)", x.count(0), 5);
        // The measure itself may make a little; one small object a round would be beyond 28,000.
        CHECK.isTrue("the calls made " + made + " bytes", made < 14000);
    }

    private static long allCalls(DutiesHat x, long[] packed, int round) {
        long sum = x.erase();
        for (int i = 0; i < packed.length; i++) {
            sum += x.write(packed[i], i == packed.length - 1 ? TEXT.length() - 8 * i : 8);
        }
        sum += x.fault() + x.hall() + x.monk(0, 0, 2) + x.as(0, 2) + x.lay(round % 120) + x.draw(1 + round) + x.has(0, 0);
        sum += x.ends(0) + x.hint(0) + x.keep(0) + x.trade(0, 1, -1) + x.settle() + x.today(2) + x.dawn() + x.lawful();
        sum += x.mean(0, 0, 0) + x.mean(2, 1, 1) + x.mean(3, 1, 0) + x.odds(0, 0, 2, 0) + x.week(7) + x.often(0, 0);
        sum += x.tail(0, 0, 1) + x.named(500) + x.back(0) + x.back(1) + x.count(4) + x.write(round, 8);
        return sum;
    }
}
