import com.sun.management.ThreadMXBean;
import java.lang.management.ManagementFactory;
import java.lang.reflect.Array;
import java.lang.reflect.Field;
import java.lang.reflect.Modifier;
import java.util.ArrayDeque;
import java.util.Collections;
import java.util.Deque;
import java.util.IdentityHashMap;
import java.util.Map;
import java.util.Set;

/** LANGUAGE 12, "What a run makes is counted": an object makes its rows once, and its calls make nothing. */
public final class RoomTest {
    private static final int MOST_OBJECTS = 120;
    private static final int MOST_FIELDS = 2000;
    // Less than what is made if one method makes one array or object: each is called six times or more.
    private static final int MOST_BYTES = 64;

    private static int checksum = 0;

    public static void main(String[] args) throws IllegalAccessException {
        anObjectIsSmall("a new object", x -> { });
        anObjectIsSmall("all is done", x -> {
            Play.rich(y -> Play.toTheEnd(y, 9)).on(x);
            x.restore();
        });
        for (Map.Entry<String, Check.Setup> stage : Play.stages().entrySet()) {
            callsMakeNothing(stage.getKey(), Play.rich(stage.getValue()));
        }
        Check.isTrue("LANGUAGE 12: the calls were made", checksum != 0);
        Check.end("RoomTest");
    }

    /** Counts what can be reached from an object, each thing once. */
    private static void anObjectIsSmall(String what, Check.Setup setup) throws IllegalAccessException {
        Set<Object> met = Collections.newSetFromMap(new IdentityHashMap<>());
        Deque<Object> waiting = new ArrayDeque<>();
        waiting.add(Check.made(setup));
        int fields = 0;
        while (!waiting.isEmpty()) {
            Object each = waiting.remove();
            if (!met.add(each)) {
                continue;
            }
            fields += each.getClass().isArray() ? elements(each, waiting) : fields(each, waiting);
        }
        Check.isTrue("LANGUAGE 12: objects and arrays, " + what + ": " + met.size(), met.size() <= MOST_OBJECTS);
        Check.isTrue("LANGUAGE 12: fields and elements, " + what + ": " + fields, fields <= MOST_FIELDS);
    }

    private static int elements(Object array, Deque<Object> waiting) {
        if (!array.getClass().getComponentType().isPrimitive()) {
            for (int index = 0; index < Array.getLength(array); index++) {
                add(Array.get(array, index), waiting);
            }
        }
        return Array.getLength(array);
    }

    private static int fields(Object object, Deque<Object> waiting) throws IllegalAccessException {
        int fields = 0;
        for (Field field : object.getClass().getDeclaredFields()) {
            if (Modifier.isStatic(field.getModifiers())) {
                continue;
            }
            fields++;
            if (!field.getType().isPrimitive()) {
                field.setAccessible(true);
                add(field.get(object), waiting);
            }
        }
        return fields;
    }

    private static void add(Object object, Deque<Object> waiting) {
        if (object != null) {
            waiting.add(object);
        }
    }

    /** The calls are made twice, as the machine itself makes things when it meets them first. */
    private static void callsMakeNothing(String stage, Check.Setup setup) {
        ThreadMXBean machine = (ThreadMXBean) ManagementFactory.getThreadMXBean();
        long made = 0;
        for (int time = 0; time < 2; time++) {
            FrozenDistricts x = Check.made(setup);
            long before = machine.getCurrentThreadAllocatedBytes();
            callAll(x);
            made = machine.getCurrentThreadAllocatedBytes() - before;
        }
        Check.isTrue("LANGUAGE 12: calls make nothing, " + stage + ": " + made, made <= MOST_BYTES);
    }

    /** Some 440 calls, of each method at least six; a turn is played each time. */
    private static void callAll(FrozenDistricts x) {
        for (int time = 0; time < 6; time++) {
            checksum += x.setVotes(time, 1, time) + x.setTarget(0, time) + x.type('1') + x.readVotes(0);
            checksum += x.snake(time % 2 == 0) + x.draft(35, 0) + x.trade(0, 34) + x.undo() + x.undo();
            checksum += x.propose() + x.advice() + x.freeze(0) + x.adopt() + x.adopt() + x.why(0) + x.why(1);
            checksum += x.fairness() + x.keep() + x.restore() + x.clearText() + x.type('2') + x.type('3');
            checksum += x.readVotes(time);
            for (int what = 0; what < 12; what++) {
                checksum += x.count(what) + x.cell(12, what) + x.part(1, what);
            }
            for (int what = 0; what < 8; what++) {
                checksum += x.district(0, what);
            }
            for (int what = 0; what < 5; what++) {
                checksum += x.party(time % 2, what);
            }
            checksum += x.begin(3);
        }
    }
}
