import com.sun.management.ThreadMXBean;
import java.lang.management.ManagementFactory;
import java.lang.reflect.Array;
import java.lang.reflect.Field;
import java.lang.reflect.Modifier;
import java.util.ArrayDeque;
import java.util.Collections;
import java.util.Deque;
import java.util.IdentityHashMap;
import java.util.Set;

/** All calls of a run live in one room: an object is small, stays so, and its calls make nothing. */
public final class RoomTest {
    /** So few that no compiler comes in, which would leave out what is made and not kept. */
    private static final int ROUNDS = 20;
    private static final String[] TEXTS = {"A?A<S:~A!#(A,#);(A,B):~(B,A)@1C;a:*1;", "_:$a;", "(A,(B,C)):&B~((A,B),C);"};

    public static void main(String[] args) throws ReflectiveOperationException {
        Due due = new Due("the room");
        ActorMachine machine = new ActorMachine();
        long[] first = count(machine);
        due.isTrue("few objects: " + first[0], first[0] <= 200);
        due.isTrue("few fields and elements: " + first[1], first[1] <= 2000);
        round(machine);
        long[] later = count(machine);
        due.isTrue("no more objects later: " + later[0], later[0] <= first[0]);
        due.isTrue("no more fields and elements later: " + later[1], later[1] <= first[1]);
        ThreadMXBean bean = (ThreadMXBean) ManagementFactory.getThreadMXBean();
        long bytes = 0;
        // the first time the measuring itself makes something
        for (int i = 0; i < 2; i++) {
            long before = bean.getCurrentThreadAllocatedBytes();
            rounds(machine);
            bytes = bean.getCurrentThreadAllocatedBytes() - before;
        }
        due.isTrue("calls that throw nothing make nothing: " + bytes + " bytes", bytes < ROUNDS);
        due.close();
    }

    private static void rounds(ActorMachine machine) {
        for (int i = 0; i < ROUNDS; i++) {
            round(machine);
        }
    }

    /** Each call of the face, none of which throws; at its end all actors are free again and nothing is under way. */
    private static void round(ActorMachine machine) {
        for (int program = 0; program < 3; program++) {
            machine.clear(program);
            write(machine, program, TEXTS[program]);
            machine.fault(program);
            machine.check(program);
        }
        machine.spawn(0, 5);
        machine.spawn(2, 0);
        machine.send(0, 0, 3, 0);
        machine.send(0, 2, 4, 4);
        machine.send(0, 1, 0, 0);
        for (int i = 0; i < 3; i++) {
            machine.deliver(6, 0);
            machine.step(0);
        }
        machine.deliver(0, 0);
        machine.kill(2);
        machine.deliver(2, 0);
        machine.kill(0);
        machine.kill(1);
        for (int actor = 0; actor < 3; actor++) {
            look(machine, actor);
            machine.reap(actor);
        }
    }

    private static void write(ActorMachine machine, int program, String text) {
        for (int i = 0; i < text.length(); i++) {
            machine.type(program, text.charAt(i));
        }
    }

    private static void look(ActorMachine machine, int actor) {
        for (int i = 0; i <= 6; i++) {
            machine.leaf(actor, i, 0);
            machine.shape(actor, i);
        }
        for (int what = 0; what <= 12; what++) {
            machine.about(actor, what);
        }
    }

    /** How many objects and arrays can be reached, and how many fields and elements they have. */
    private static long[] count(Object root) throws ReflectiveOperationException {
        Set<Object> seen = Collections.newSetFromMap(new IdentityHashMap<>());
        Deque<Object> open = new ArrayDeque<>();
        long[] counts = new long[2];
        open.add(root);
        while (!open.isEmpty()) {
            Object next = open.remove();
            if (seen.add(next)) {
                counts[0]++;
                counts[1] += next.getClass().isArray() ? lookIntoArray(next, open) : lookIntoObject(next, open);
            }
        }
        return counts;
    }

    private static int lookIntoArray(Object array, Deque<Object> open) {
        int length = Array.getLength(array);
        for (int i = 0; i < length && !array.getClass().getComponentType().isPrimitive(); i++) {
            open.add(Array.get(array, i));
        }
        return length;
    }

    private static int lookIntoObject(Object object, Deque<Object> open) throws ReflectiveOperationException {
        int fields = 0;
        for (Field field : object.getClass().getDeclaredFields()) {
            if (Modifier.isStatic(field.getModifiers())) {
                continue;
            }
            fields++;
            field.setAccessible(true);
            if (!field.getType().isPrimitive() && field.get(object) != null) {
                open.add(field.get(object));
            }
        }
        return fields;
    }
}
