import java.lang.reflect.Array;
import java.lang.reflect.Field;
import java.lang.reflect.Modifier;
import java.util.Collections;
import java.util.IdentityHashMap;
import java.util.Set;

/** Counts the fields and elements of an object and of all that it holds. */
final class Room {
    private final Set<Object> seen = Collections.newSetFromMap(new IdentityHashMap<>());
    private int size = 0;

    int size() {
        return size;
    }

    void enter(Object object) {
        if (object == null || !seen.add(object)) {
            return;
        }
        if (object.getClass().isArray()) {
            enterArray(object);
        } else {
            enterFields(object);
        }
    }

    private void enterArray(Object array) {
        size += Array.getLength(array);
        if (array instanceof Object[] objects) {
            for (Object object : objects) {
                enter(object);
            }
        }
    }

    private void enterFields(Object object) {
        for (Field field : object.getClass().getDeclaredFields()) {
            if (Modifier.isStatic(field.getModifiers())) {
                continue;
            }
            size++;
            if (!field.getType().isPrimitive()) {
                enter(valueOf(field, object));
            }
        }
    }

    private static Object valueOf(Field field, Object object) {
        try {
            field.setAccessible(true);
            return field.get(object);
        } catch (IllegalAccessException wrong) {
            throw new IllegalStateException(wrong);
        }
    }
}
