import java.lang.management.ManagementFactory;
import java.lang.reflect.Array;
import java.lang.reflect.Field;
import java.lang.reflect.Modifier;
import java.util.ArrayDeque;
import java.util.Collections;
import java.util.IdentityHashMap;
import java.util.Set;

/**
 * All calls of one run live in one room of some 600,000 objects and 7.3 million fields and elements: what an object
 * holds is counted by reflection, and what its calls make by the machine's own count of bytes.
 */
public final class RoomTest extends Probe {
    private static final int OBJECTS = 10_000;
    private static final int ELEMENTS = 400_000;
    private static final int CALLS = 512;
    /** The machine itself may make some beside the calls; the least object in each round would be 8,192. */
    private static final int BYTES = 6_000;

    /** How many objects and arrays are held, and how many fields and elements these have. */
    private static int[] held(Object first) {
        Set<Object> seen = Collections.newSetFromMap(new IdentityHashMap<>());
        ArrayDeque<Object> waiting = new ArrayDeque<>();
        seen.add(first);
        waiting.add(first);
        int elements = 0;
        while (!waiting.isEmpty()) {
            Object x = waiting.poll();
            if (x.getClass().isArray()) {
                elements += Array.getLength(x);
                for (int i = 0; !x.getClass().getComponentType().isPrimitive() && i < Array.getLength(x); i++) {
                    meet(Array.get(x, i), seen, waiting);
                }
            } else {
                elements += fields(x, seen, waiting);
            }
        }
        return new int[] {seen.size(), elements};
    }

    private static int fields(Object x, Set<Object> seen, ArrayDeque<Object> waiting) {
        int found = 0;
        for (Field f : x.getClass().getDeclaredFields()) {
            if (Modifier.isStatic(f.getModifiers())) {
                continue;
            }
            found++;
            try {
                f.setAccessible(true);
                if (!f.getType().isPrimitive()) {
                    meet(f.get(x), seen, waiting);
                }
            } catch (IllegalAccessException e) {
                due("field " + f, false, true);
            }
        }
        return found;
    }

    private static void meet(Object x, Set<Object> seen, ArrayDeque<Object> waiting) {
        if (x != null && seen.add(x)) {
            waiting.add(x);
        }
    }

    /** FILES whose RUNS have many EXPANSIONS, STRINGS and pastes by each of eight SETTINGS. */
    private static void prepare(HideSets x) {
        switches(x, "s t u");
        file(x, 0, "#define c(x,y) x##y #x #y x y", "#define d(x) c(x,x)c(x,1) x", "#define e(x) d(x) d(x)", "#include 1", "e(s)", "e(t)",
            "e(u)", "#if s+t*2+u*4", "d(q)", "#include 1", "#elif 1", "#endif");
        file(x, 1, "#ifndef G", "#define G", "#endif");
        file(x, 2, "#if 1", times("+", 300), "#endif", "a");
    }

    /** Each call of the face; what Probe tells would make arrays of its own, so tapes are fed here. */
    private static long round(HideSets x, int n) {
        x.set(n & 7);
        x.run(n % 3);
        x.presence(n % 3, 0, 0);
        x.outcomes((n + 1) % 3);
        x.like((n + 2) % 3, n & 7);
        x.depends(n % 3);
        x.guard(1);
        x.image(n & 1);
        feed(x, "e(s) d(q) c(a,b) - 1");
        int came = x.expand();
        feed(x, "(-1)+1*2?s:t+1/(2-3)");
        long worth = x.value();
        feed(x, "#define h(x) #x ## x");
        x.edit(1, 3);
        x.end(0);
        x.outcomes(1);
        x.drop(1, 3);
        x.restore(n & 1);
        feed(x, "s t u               ");
        x.switches();
        feed(x, "#ifndef G#define G#e");
        x.file(3);
        return came + worth + x.token(0, 5) + x.tokenAt(0, 0) + x.macro(0, 5) + x.macroAt(0, 0) + x.fault(3) + x.now(6)
            + x.passed(0, 4) + x.nextOf(0, 7) + x.guardAt(0) + x.count(0) + x.lines(0);
    }

    private static void feed(HideSets x, String twenty) {
        x.feed(number(twenty, 0), number(twenty, 4), number(twenty, 8), number(twenty, 12), number(twenty, 16));
    }

    private static int number(String s, int i) {
        return s.charAt(i) << 24 | s.charAt(i + 1) << 16 | s.charAt(i + 2) << 8 | s.charAt(i + 3);
    }

    private static void objects() {
        sentence("All calls of one run live in ONE room");
        HideSets x = new HideSets();
        int[] fresh = held(x);
        prepare(x);
        round(x, 0);
        int[] used = held(x);
        System.out.println("held: " + fresh[0] + " objects with " + fresh[1] + " elements, then " + used[0] + " with " + used[1]);
        due("objects are few", used[0] <= OBJECTS, true);
        due("elements are few", used[1] <= ELEMENTS, true);
        for (int n = 0; n < CALLS; n++) {
            round(x, n);
        }
        int[] later = held(x);
        due("objects after more calls", later[0], used[0]);
        due("elements after more calls", later[1], used[1]);
    }

    private static void bytes() {
        sentence("make rows in constructors and use them again");
        com.sun.management.ThreadMXBean bean = (com.sun.management.ThreadMXBean) ManagementFactory.getThreadMXBean();
        HideSets x = new HideSets();
        prepare(x);
        long sum = round(x, 0);
        bean.getCurrentThreadAllocatedBytes();
        long before = bean.getCurrentThreadAllocatedBytes();
        for (int n = 0; n < CALLS; n++) {
            sum += round(x, n);
        }
        long made = bean.getCurrentThreadAllocatedBytes() - before;
        System.out.println("bytes that " + CALLS + " rounds of calls made: " + made);
        due("calls make nothing (" + made + " bytes)", made <= BYTES, true);
        due("the rounds were worked out", sum > 0, true);
    }

    public static void main(String[] args) {
        objects();
        bytes();
        close("room");
    }
}
