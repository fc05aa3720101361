import java.lang.reflect.Array;
import java.lang.reflect.Field;
import java.lang.reflect.Modifier;
import java.util.Arrays;

/**
 * All that an object holds, as a text. Calls can't tell it: bytes that are not written yet and versions that were
 * met are seen only by what later calls do, and looking at a whole disk takes more calls than an object has.
 */
final class State {
    private State() {
    }

    static String of(PageDisk disk) {
        StringBuilder text = new StringBuilder();
        try {
            append(text, disk);
        } catch (IllegalAccessException e) {
            throw new AssertionError(e);
        }
        return text.toString();
    }

    private static void append(StringBuilder text, Object value) throws IllegalAccessException {
        if (value == null || value instanceof Number || value instanceof Boolean) {
            text.append(value).append(' ');
        } else if (value instanceof byte[]) {
            text.append(Arrays.toString((byte[]) value));
        } else if (value.getClass().isArray()) {
            for (int i = 0; i < Array.getLength(value); i++) {
                append(text, Array.get(value, i));
            }
        } else {
            appendFields(text, value);
        }
    }

    private static void appendFields(StringBuilder text, Object value) throws IllegalAccessException {
        for (Field field : value.getClass().getDeclaredFields()) {
            if (!Modifier.isStatic(field.getModifiers())) {
                field.setAccessible(true);
                text.append(field.getName()).append(": ");
                append(text, field.get(value));
            }
        }
    }
}
