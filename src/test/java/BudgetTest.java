import java.lang.reflect.Array;
import java.lang.reflect.Field;
import java.lang.reflect.Modifier;
import java.util.ArrayDeque;
import java.util.Collections;
import java.util.Deque;
import java.util.IdentityHashMap;
import java.util.Set;

/**
 * What one object takes: the objects and arrays that hang on it, and their fields and elements. All
 * calls of a run live in one room of 600,000 objects and 7,300,000 fields and elements; even 513 new
 * objects must fit in there, and a night that is as full as it can be.
 */
public final class BudgetTest {
    private static final int OBJECTS_OF_RUN = 600_000;
    private static final int CELLS_OF_RUN = 7_300_000;
    private static final int CALLS = 513;

    private int objects = 0;
    private int cells = 0;

    private BudgetTest() {
    }

    public static void main(String[] args) throws IllegalAccessException {
        MuseumNights x = new MuseumNights();
        BudgetTest fresh = new BudgetTest();
        fresh.measure(x);
        System.out.println("new: " + fresh.objects + " objects, " + fresh.cells + " fields and elements");
        Check.holds("objects of a new one", fresh.objects < OBJECTS_OF_RUN / CALLS);
        Check.holds("fields and elements of a new one", fresh.cells < CELLS_OF_RUN / CALLS);

        fillNight(x);
        BudgetTest full = new BudgetTest();
        full.measure(x);
        System.out.println("full: " + full.objects + " objects, " + full.cells + " fields and elements");
        Check.due("objects are used again", full.objects, fresh.objects);
        Check.holds("fields and elements of a full one", full.cells < 200_000);
        Check.end();
    }

    private static void fillNight(MuseumNights x) {
        x.addRoom(0, 0);
        x.addDoor(0, 1, 1, -1);
        for (int guard = 0; guard < 4; guard++) {
            x.addGuard();
        }
        Check.typeAll(x, "1,0,1,0,1,0,1,0,1,0,1,0");
        for (int round = 0; round < 60; round++) {
            for (int guard = 0; guard < 4; guard++) {
                x.readOrders(guard);
            }
            x.alarmsIn(12);
            x.pass(12);
        }
        x.keep();
        for (int act = 0; act < 8; act++) {
            x.restore();
        }
    }

    private void measure(Object root) throws IllegalAccessException {
        Set<Object> seen = Collections.newSetFromMap(new IdentityHashMap<>());
        Deque<Object> ahead = new ArrayDeque<>();
        ahead.add(root);
        while (!ahead.isEmpty()) {
            Object one = ahead.remove();
            if (!seen.add(one)) {
                continue;
            }
            objects++;
            if (one.getClass().isArray()) {
                cells += Array.getLength(one);
                if (one instanceof Object[]) {
                    for (Object part : (Object[]) one) {
                        if (part != null) {
                            ahead.add(part);
                        }
                    }
                }
                continue;
            }
            for (Field field : one.getClass().getDeclaredFields()) {
                if (Modifier.isStatic(field.getModifiers())) {
                    continue;
                }
                cells++;
                field.setAccessible(true);
                Object part = field.get(one);
                if (!field.getType().isPrimitive() && part != null) {
                    ahead.add(part);
                }
            }
        }
    }
}
