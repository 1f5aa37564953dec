import java.lang.reflect.Array;
import java.lang.reflect.Field;
import java.lang.reflect.Modifier;
import java.util.Collections;
import java.util.IdentityHashMap;
import java.util.Set;

/** "All memory is the keeper's own, made once": looked at from inside, and by two objects side by side. */
public final class MemoryTest {
    private static Set<Object> heldBy(Object o) {
        Set<Object> held = Collections.newSetFromMap(new IdentityHashMap<>());
        collect(o, held);
        return held;
    }

    private static void collect(Object o, Set<Object> held) {
        if (o == null || o instanceof Number || o instanceof Boolean || o instanceof String || !held.add(o)) {
            return;
        }
        if (o.getClass().isArray()) {
            if (!o.getClass().getComponentType().isPrimitive()) {
                for (int i = 0; i < Array.getLength(o); i++) {
                    collect(Array.get(o, i), held);
                }
            }
            return;
        }
        try {
            for (Field f : o.getClass().getDeclaredFields()) {
                if (!Modifier.isStatic(f.getModifiers()) && !f.getType().isPrimitive()) {
                    f.setAccessible(true);
                    collect(f.get(o), held);
                }
            }
        } catch (IllegalAccessException e) {
            throw new IllegalStateException(e);
        }
    }

    private static void useAllCalls(ModeKeeper x) {
        for (int round = 0; round < 10; round++) {
            for (int i = 0; i < 9; i++) {
                x.put(i);
                x.form(i * 20 + round, 1 + i);
                x.enable(i * 20 + round, i % 2 == 0);
            }
            for (int i = 0; i < 9; i++) {
                x.remove(i * 20 + round);
            }
            x.move(round, round);
            x.enter(round % 4);
            x.alarm(round);
            x.look(round);
            x.due(round, 0);
            x.parameter(round, 0);
            x.value(round);
            x.about(round, 0);
        }
    }

    private static void memoryIsMadeOnce() {
        ModeKeeper x = new ModeKeeper();
        Set<Object> before = heldBy(x);
        useAllCalls(x);
        Set<Object> after = heldBy(x);
        if (!before.equals(after)) {
            Report.wrong("the object holds " + after.size() + " objects, " + before.size()
                + " when it was made, and they are not the same ones");
        }
    }

    private static void memoryIsTheKeepersOwn() {
        Set<Object> one = heldBy(new ModeKeeper());
        Set<Object> other = heldBy(new ModeKeeper());
        one.retainAll(other);
        if (!one.isEmpty()) {
            Report.wrong("two objects share " + one.size() + " objects");
        }
    }

    private static void anotherObjectStaysNew() {
        Run x = new Run();
        Run y = new Run();
        for (int a = 0; a < 8; a++) {
            x.gives(0, Call.move(a, 5));
        }
        x.gives(1, Call.put(3));
        x.gives(0, Call.form(1, 1));
        x.gives(0, Call.enable(1, true));
        x.gives(1, Call.put(4));
        x.gives(true, Call.alarm(7));
        x.gives(0, Call.enter(0));
        for (int a = 0; a < 8; a++) {
            y.gives(0, Call.value(a));
        }
        y.gives(1, Call.value(8));
        y.gives(-1, Call.value(9));
        y.gives(0, Call.value(10));
        y.gives(0, Call.value(11));
        y.gives(-1, Call.due(0, 0));
        y.gives(1, Call.put(9));
        y.gives(true, Call.alarm(8));
    }

    /** The numbers of the safe mode must not be the memory that move writes. */
    private static void aMoveLeavesTheSafeNumbers() {
        int[] safe = {0, 0, 0, 0, 50, 50, 100, 1};
        Run x = new Run(Call.enter(0), Call.enter(1));
        Run y = new Run();
        for (int a = 0; a < 8; a++) {
            x.gives(0, Call.move(a, 99));
        }
        x.gives(0, Call.enter(0));
        y.gives(0, Call.enter(0));
        for (int a = 0; a < 8; a++) {
            x.gives(safe[a], Call.value(a));
            y.gives(safe[a], Call.value(a));
        }
    }

    public static void main(String[] args) {
        Report.sentence("terms", "made once", MemoryTest::memoryIsMadeOnce);
        String own = "All memory is the keeper's own";
        Report.sentence("terms, inside", own, MemoryTest::memoryIsTheKeepersOwn);
        Report.sentence("terms, another object", own, MemoryTest::anotherObjectStaysNew);
        Report.sentence("terms, safe numbers", own, MemoryTest::aMoveLeavesTheSafeNumbers);
        Report.end();
    }
}
