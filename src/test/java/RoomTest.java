import java.lang.management.ManagementFactory;
import java.lang.reflect.Array;
import java.lang.reflect.Field;
import java.lang.reflect.Modifier;
import java.util.ArrayList;
import java.util.List;

/**
 * All calls of a run live in one room, so an object must be small and no call may make another; and rule 7 of
 * LANGUAGE.md: no call throws by itself, for any arguments in any state.
 */
public final class RoomTest {
    private static final int MOST_OBJECTS = 10;
    private static final int MOST_FIELDS = 400;
    /** No object of the Java machine is smaller. */
    private static final int LEAST_OBJECT = 8;
    private static final int ROUNDS = 400;

    private static final long[] ENDS = {
        Long.MIN_VALUE, Integer.MIN_VALUE, -Desk.WRAP, -1, 0, 1, 2, 5, 7, 8, 12, 13, 16, 50, 51, 800, 896, 1000, 1001,
        3000, 3001, 7000, 10000, 10001, Integer.MAX_VALUE, Desk.WRAP, Desk.WRAP + 1, Long.MAX_VALUE
    };

    public static void main(String[] args) throws Exception {
        anObjectIsSmall();
        aUsedObjectIsAsSmall();
        noCallMakesAnObject();
        noCallThrowsByItself();
        Due.end();
    }

    private static void anObjectIsSmall() throws Exception {
        int[] size = sizeOf(new TorqueRows());
        Due.isTrue(size[0] + " objects of a new one", size[0] <= MOST_OBJECTS);
        Due.isTrue(size[1] + " fields and elements of a new one", size[1] <= MOST_FIELDS);
    }

    private static void aUsedObjectIsAsSmall() throws Exception {
        TorqueRows rows = new TorqueRows();
        for (int n = 0; n < 25; n++) {
            callAll(rows, n);
        }
        int[] size = sizeOf(rows);
        int[] due = sizeOf(new TorqueRows());
        Due.is("objects of a used one", size[0], due[0]);
        Due.is("fields and elements of a used one", size[1], due[1]);
    }

    private static void noCallMakesAnObject() {
        var threads = (com.sun.management.ThreadMXBean) ManagementFactory.getThreadMXBean();
        long me = Thread.currentThread().getId();
        TorqueRows[] objects = new TorqueRows[ROUNDS];
        for (int n = 0; n < ROUNDS; n++) {
            objects[n] = new TorqueRows();
        }
        // The machine itself makes something when it first meets a method.
        callAll(new TorqueRows(), 0);
        threads.getThreadAllocatedBytes(me);
        long before = threads.getThreadAllocatedBytes(me);
        for (TorqueRows rows : objects) {
            callAll(rows, 1);
        }
        long made = threads.getThreadAllocatedBytes(me) - before;
        Due.isTrue(made + " bytes made by " + ROUNDS + " rounds of all calls", made < ROUNDS * LEAST_OBJECT);
    }

    /** Each call of the face once, some with wrong numbers; period(0) is left out, since its exception is an object. */
    private static void callAll(TorqueRows rows, int n) {
        rows.table(n % 5, n % 8, n % 7, n);
        rows.table(5, 0, 0, 0);
        rows.wish(1 + n % 5, n);
        rows.wish(0, 0);
        rows.bound(1000 - n);
        rows.idle(900 + n);
        rows.sensor(n % 3, n % 2);
        rows.cylinder(1 + n % 12);
        rows.step(n, n + 60, 500 + n);
        rows.step(-1, 0, 0);
        rows.monitor(n * 50L);
        rows.split(500, n % 3);
        rows.period(1000);
        rows.limp(n % 2 == 0);
        rows.torque();
        rows.value(n % 9);
        rows.sum(n % 5);
    }

    private static void noCallThrowsByItself() {
        int answered = 0;
        for (Twins.State state : Twins.State.values()) {
            for (long a : ENDS) {
                for (long b : ENDS) {
                    TorqueRows rows = Twins.made(state);
                    try {
                        callWith(rows, a, b);
                        answered++;
                    } catch (RuntimeException e) {
                        Due.isTrue("no throw with " + a + ", " + b + " in " + state + ", but " + e, false);
                    }
                }
            }
        }
        Due.is("rounds that answered", answered, (long) Twins.State.values().length * ENDS.length * ENDS.length);
    }

    private static void callWith(TorqueRows rows, long a, long b) {
        int whole = (int) a;
        int other = (int) b;
        rows.table(whole, other, 0, 5);
        rows.table(0, whole, other, 5);
        rows.table(4, 7, whole, b);
        rows.wish(whole, b);
        rows.bound(a);
        rows.idle(a);
        rows.sensor(whole, other);
        rows.cylinder(whole);
        Desk.periodOrThrow(rows, b);
        rows.step(a, b, 900);
        rows.step(5, a, b);
        rows.step(b, 5, a);
        rows.monitor(a);
        rows.split(a, other);
        rows.value(whole);
        rows.sum(whole);
        rows.limp(a < b);
        rows.limp(false);
        rows.step(0, 0, a);
    }

    /** How many objects and arrays can be reached, and how many fields and elements they have. */
    private static int[] sizeOf(Object root) throws Exception {
        List<Object> seen = new ArrayList<>();
        seen.add(root);
        int fields = 0;
        for (int n = 0; n < seen.size(); n++) {
            Object one = seen.get(n);
            if (one.getClass().isArray()) {
                fields += Array.getLength(one);
                continue;
            }
            for (Field field : one.getClass().getDeclaredFields()) {
                if (!Modifier.isStatic(field.getModifiers())) {
                    fields++;
                    addReached(seen, field, one);
                }
            }
        }
        return new int[] {seen.size(), fields};
    }

    private static void addReached(List<Object> seen, Field field, Object owner) throws Exception {
        field.setAccessible(true);
        Object reached = field.getType().isPrimitive() ? null : field.get(owner);
        if (reached != null && seen.stream().noneMatch(one -> one == reached)) {
            seen.add(reached);
        }
    }
}
