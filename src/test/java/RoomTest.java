import java.lang.reflect.Array;
import java.lang.reflect.Field;
import java.lang.reflect.Modifier;
import java.util.ArrayDeque;
import java.util.Collections;
import java.util.IdentityHashMap;
import java.util.List;
import java.util.Set;

/** LANGUAGE.md's rule 12: how many objects a match keeps, and their fields, after 512 of its dearest calls. */
public final class RoomTest {
    private static final int CALLS = 512;
    private static final int MOST_OBJECTS_NEW = 100;
    private static final int MOST_FIELDS_NEW = 600;
    // What one call may add: three decisions at most, of four fields each, and the places of a list for them.
    private static final int MOST_OBJECTS_A_CALL = 3;
    private static final int MOST_FIELDS_A_CALL = 20;

    private final Check check = new Check("RoomTest");
    private int objects;
    private int fields;

    public static void main(String[] args) {
        RoomTest test = new RoomTest();
        test.newMatch();
        test.manyOffences();
        test.manyStops();
        test.manyLooks();
        test.check.end();
    }

    private void newMatch() {
        count(new Scrumward());
        check.due("objects of a new match: " + objects, objects <= MOST_OBJECTS_NEW, true);
        check.due("fields of a new match: " + fields, fields <= MOST_FIELDS_NEW, true);
    }

    private void manyOffences() {
        Scrumward x = Match.open(0, 50);
        for (int i = 2; i < CALLS; i++) {
            x.offend(i % 2, 'p', i % 4 < 2);
        }
        isSmall("offences", x);
    }

    private void manyStops() {
        Scrumward x = new Scrumward();
        x.begin(0);
        for (int i = 1; i + 4 <= CALLS; i += 4) {
            x.restart(8);
            x.carry(0);
            x.ground();
            x.kick(true);
        }
        isSmall("stops", x);
    }

    /** Calls that tell something and calls that are refused leave nothing behind. */
    private void manyLooks() {
        Scrumward x = Match.ruck(0, 50);
        count(x);
        int before = objects;
        for (int i = 0; i < CALLS; i++) {
            Match.view(x);
            check.fails("a call that is refused", IllegalStateException.class, x::ground);
        }
        count(x);
        check.due("objects after calls that tell something", objects, before);
    }

    private void isSmall(String what, Scrumward x) {
        count(x);
        int mostObjects = MOST_OBJECTS_NEW + CALLS * MOST_OBJECTS_A_CALL;
        int mostFields = MOST_FIELDS_NEW + CALLS * MOST_FIELDS_A_CALL;
        check.due("objects after many " + what + ": " + objects, objects <= mostObjects, true);
        check.due("fields after many " + what + ": " + fields, fields <= mostFields, true);
    }

    /** Counts what can be reached from the match; a list counts as itself and as many places as it holds. */
    private void count(Scrumward x) {
        objects = 0;
        fields = 0;
        Set<Object> seen = Collections.newSetFromMap(new IdentityHashMap<Object, Boolean>());
        ArrayDeque<Object> open = new ArrayDeque<Object>();
        reach(x, seen, open);
        while (!open.isEmpty()) {
            Object one = open.remove();
            objects++;
            if (one instanceof List) {
                fields += 3 + ((List<?>) one).size();
                for (Object part : (List<?>) one) {
                    reach(part, seen, open);
                }
            } else if (one.getClass().isArray()) {
                fields += Array.getLength(one);
                for (int i = 0; i < Array.getLength(one); i++) {
                    reach(Array.get(one, i), seen, open);
                }
            } else {
                countFields(one, seen, open);
            }
        }
    }

    private void countFields(Object one, Set<Object> seen, ArrayDeque<Object> open) {
        for (Field field : one.getClass().getDeclaredFields()) {
            if (Modifier.isStatic(field.getModifiers())) {
                continue;
            }
            fields++;
            field.setAccessible(true);
            try {
                reach(field.get(one), seen, open);
            } catch (IllegalAccessException e) {
                throw new IllegalStateException("a field of the class cannot be read: " + field, e);
            }
        }
    }

    /** Numbers are part of what holds them, and the constants of an enum belong to no match. */
    private static void reach(Object one, Set<Object> seen, ArrayDeque<Object> open) {
        boolean isCounted = one != null && !one.getClass().getName().startsWith("java.lang.") && !(one instanceof Enum);
        if (isCounted && seen.add(one)) {
            open.add(one);
        }
    }
}
