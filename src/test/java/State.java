import java.lang.reflect.Array;
import java.lang.reflect.Field;
import java.lang.reflect.Modifier;
import java.util.IdentityHashMap;
import java.util.List;

/** All that an object holds, also what no call tells, as a text: equal texts, equal states. */
final class State {
    private final StringBuilder text = new StringBuilder();
    private final IdentityHashMap<Object, Integer> numbers = new IdentityHashMap<Object, Integer>();

    private State() {
    }

    static String of(Object one) {
        State state = new State();
        state.write(one);
        return state.text.toString();
    }

    private void write(Object one) {
        if (one == null || one.getClass().getName().startsWith("java.lang.") || one instanceof Enum) {
            text.append(one).append(' ');
        } else if (numbers.containsKey(one)) {
            text.append('#').append(numbers.get(one)).append(' ');
        } else {
            numbers.put(one, numbers.size());
            writeParts(one);
        }
    }

    private void writeParts(Object one) {
        text.append('(');
        if (one instanceof List) {
            for (Object part : (List<?>) one) {
                write(part);
            }
        } else if (one.getClass().isArray()) {
            for (int i = 0; i < Array.getLength(one); i++) {
                write(Array.get(one, i));
            }
        } else {
            writeFields(one);
        }
        text.append(')');
    }

    private void writeFields(Object one) {
        for (Field field : one.getClass().getDeclaredFields()) {
            if (Modifier.isStatic(field.getModifiers())) {
                continue;
            }
            field.setAccessible(true);
            text.append(field.getName()).append('=');
            try {
                write(field.get(one));
            } catch (IllegalAccessException e) {
                throw new IllegalStateException("a field of the class cannot be read: " + field, e);
            }
        }
    }
}
