import java.lang.reflect.Array;
import java.lang.reflect.Field;
import java.lang.reflect.Modifier;
import java.util.Collections;
import java.util.IdentityHashMap;
import java.util.Set;

/** How much room an object takes: what it is made with is all that it has after 512 calls. */
public final class RoomTest {
    private static final int CALLS = 512;
    // The room of one run, for all its calls.
    private static final int ROOM_OBJECTS = 600_000, ROOM_CELLS = 7_300_000;
    // A kingdom call makes one Text of five fields (RulesTest sees that it is the only one).
    private static final int CALL_OBJECTS = 1, CALL_CELLS = 5;
    private static final Check check = new Check();

    private final Set<Object> seen = Collections.newSetFromMap(new IdentityHashMap<>());
    private int cells;

    public static void main(String[] args) throws IllegalAccessException {
        RoomTest fresh = new RoomTest();
        BlankPardons x = new BlankPardons();
        fresh.walk(x);
        use(x);
        RoomTest used = new RoomTest();
        used.walk(x);
        check.due("objects after " + CALLS + " calls", used.seen.size(), fresh.seen.size());
        check.due("fields and elements after " + CALLS + " calls", used.cells, fresh.cells);
        check.holds("all that it holds was made with it", fresh.seen.containsAll(used.seen));
        int objects = fresh.seen.size() + CALLS * CALL_OBJECTS;
        int all = fresh.cells + CALLS * CALL_CELLS;
        System.out.println("with " + CALLS + " kingdoms: " + objects + " objects and arrays, " + all + " cells");
        check.holds("a hundredth of the room's objects", objects <= ROOM_OBJECTS / 100);
        check.holds("a hundredth of the room's cells", all <= ROOM_CELLS / 100);
        check.finish();
    }

    private static void use(BlankPardons x) {
        String text = "p/425/133/999/900/111;s3;m3;h3;s3";
        Check.write(x, 0, 0, text);
        for (int calls = text.length() + 1; calls < CALLS; calls++) {
            switch (calls % 10) {
                case 0 -> x.kingdom(0, 0, 0, text.length());
                case 1 -> x.hope(calls % 4, calls % 9, calls % 3, calls % 2);
                case 2 -> x.best(calls % 9);
                case 3 -> x.reading(calls % 4, calls % 5, true);
                case 4 -> x.risks(calls % 5);
                case 5 -> x.sheet(1, calls % 3, calls % 61);
                case 6 -> x.year(1, calls % 3, 0, calls % 3, 10 + calls % 4);
                case 7 -> x.copy(1, 0, 1, 1, calls % 9);
                case 8 -> x.tell(calls % 4);
                default -> x.lose(2);
            }
        }
    }

    private void walk(Object one) throws IllegalAccessException {
        if (one == null || !seen.add(one)) {
            return;
        }
        if (one.getClass().isArray()) {
            walkArray(one);
            return;
        }
        for (Field field : one.getClass().getDeclaredFields()) {
            if (!Modifier.isStatic(field.getModifiers())) {
                cells++;
                if (!field.getType().isPrimitive()) {
                    field.setAccessible(true);
                    walk(field.get(one));
                }
            }
        }
    }

    private void walkArray(Object row) throws IllegalAccessException {
        int length = Array.getLength(row);
        cells += length;
        for (int k = 0; k < length && !row.getClass().getComponentType().isPrimitive(); k++) {
            walk(Array.get(row, k));
        }
    }
}
