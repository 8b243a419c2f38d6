import com.sun.management.ThreadMXBean;
import java.lang.management.ManagementFactory;
import java.lang.reflect.Array;
import java.lang.reflect.Field;
import java.lang.reflect.Modifier;
import java.util.ArrayDeque;
import java.util.Collections;
import java.util.IdentityHashMap;
import java.util.Set;

/** All calls of a run live in one room: an object is small, and 512 calls make and hold nothing beside what it had when new. */
public final class RoomTest {
    private static final int MOST_OBJECTS = 1_000;
    private static final int MOST_ELEMENTS = 100_000;
    // x, the end of a LINE, a blank, x.
    private static final int LINES = 'x' << 24 | '\n' << 16 | ' ' << 8 | 'x';
    private static int wrong;

    public static void main(String[] args) throws IllegalAccessException {
        ColumnGrammar x = typed();
        Set<Object> atFirst = held(x);
        int elements = 0;
        for (Object one : atFirst) {
            elements += sizeOf(one);
        }
        say(atFirst.size() <= MOST_OBJECTS, "a new object holds " + atFirst.size() + " objects");
        say(elements <= MOST_ELEMENTS, "a new object holds " + elements + " elements");
        x.grammar();
        callAll(x);
        Set<Object> later = held(x);
        say(atFirst.containsAll(later), "the calls made something that is held");
        // The first time the machine may make things of its own.
        made(typed());
        long bytes = made(typed());
        say(bytes <= 0, "the calls made objects of " + bytes + " bytes");
        System.out.println(atFirst.size() + " objects, " + elements + " elements; " + (wrong == 0 ? "no more by calls" : "too many"));
        if (wrong != 0) {
            System.exit(1);
        }
    }

    private static void say(boolean right, String what) {
        if (!right) {
            wrong++;
            System.out.println(what);
        }
    }

    /** What an object holds by its fields and arrays, itself among it. */
    private static Set<Object> held(Object from) throws IllegalAccessException {
        Set<Object> found = Collections.newSetFromMap(new IdentityHashMap<>());
        ArrayDeque<Object> open = new ArrayDeque<>();
        open.add(from);
        while (!open.isEmpty()) {
            Object one = open.remove();
            if (!found.add(one)) {
                continue;
            }
            if (one instanceof Object[] array) {
                for (Object part : array) {
                    open.add(part);
                }
            } else if (!one.getClass().isArray()) {
                for (Field field : one.getClass().getDeclaredFields()) {
                    field.setAccessible(true);
                    Object part = Modifier.isStatic(field.getModifiers()) || field.getType().isPrimitive() ? null : field.get(one);
                    if (part != null) {
                        open.add(part);
                    }
                }
            }
        }
        return found;
    }

    private static int sizeOf(Object one) {
        return one.getClass().isArray() ? Array.getLength(one) : one.getClass().getDeclaredFields().length;
    }

    /** Every call of the face but for typing, some more than 400 calls in all. */
    private static long callAll(ColumnGrammar x) {
        long sum = x.sign(LINES) + (x.end(4) ? 1 : 0) + x.text();
        for (int k = 0; k < 12; k++) {
            sum += x.fits() + x.blame(0) + x.hint(0) + x.repair(0) + x.nodes() + x.room(k) + x.goesOn(k) + x.first(0, 0);
            sum += x.move(1, k % 2 == 0 ? 1 : -1) + x.node(k, 0) + x.ways(k) + x.extent(k, 0) + x.off(k) + x.about(k, 0) + x.tree(0);
            sum += x.put(0, 9 + k, 'x') + x.change(0, 'y') + x.part(1, 3) + x.take(1) + x.undo() + x.grow(k) + x.print() + x.write();
            sum += (x.keep(k % 2) ? 1 : 0) + x.alike(k % 2) + (x.again(k % 2) ? 1 : 0) + x.count(k) + x.letter(k) + x.item(0, 0, 0, 0);
            sum += x.where(0, 0, k) + x.next(k, 'x') + x.free(0) + x.token(k, 0) + x.rule(0, k);
        }
        return sum;
    }

    /** What the machine counts: bytes that this thread's calls made. */
    private static long made(ColumnGrammar x) {
        ThreadMXBean threads = (ThreadMXBean) ManagementFactory.getThreadMXBean();
        long ahead = threads.getCurrentThreadAllocatedBytes();
        long ofAsking = threads.getCurrentThreadAllocatedBytes() - ahead;
        ahead = threads.getCurrentThreadAllocatedBytes();
        x.grammar();
        callAll(x);
        return threads.getCurrentThreadAllocatedBytes() - ahead - ofAsking;
    }

    private static ColumnGrammar typed() {
        ColumnGrammar x = new ColumnGrammar();
        Due.type(x, "B:=L/=L=B;L:='x/='x'{>B");
        return x;
    }
}
