import java.lang.reflect.Array;
import java.lang.reflect.Field;
import java.lang.reflect.Modifier;
import java.util.List;
import java.util.Set;

/** All that a works holds, as a text, but for what can be reckoned from the rest: finer than what can be asked. */
final class Inside {
    private static final Set<String> RECKONED = Set.of("trial", "spareTrial", "seen", "queue");

    private Inside() {
    }

    static String of(Ironpour works) {
        StringBuilder text = new StringBuilder();
        try {
            tell(works, text);
        } catch (IllegalAccessException wrong) {
            throw new IllegalStateException(wrong);
        }
        return text.toString();
    }

    private static void tell(Object told, StringBuilder text) throws IllegalAccessException {
        if (told instanceof List) {
            for (Object each : (List<?>) told) {
                tell(each, text);
            }
        } else if (told.getClass().isArray()) {
            for (int i = 0; i < Array.getLength(told); i++) {
                text.append(Array.get(told, i)).append(' ');
            }
        } else if (told.getClass().getName().startsWith("Ironpour")) {
            for (Field field : told.getClass().getDeclaredFields()) {
                if (!Modifier.isStatic(field.getModifiers()) && !RECKONED.contains(field.getName())) {
                    field.setAccessible(true);
                    text.append('\n').append(field.getName()).append(": ");
                    tell(field.get(told), text);
                }
            }
        } else {
            text.append(told);
        }
    }

    /** What stands in a field, or in a field of what stands there, and so on. */
    static Object at(Object holder, String... names) {
        Object found = holder;
        try {
            for (String name : names) {
                Field field = found.getClass().getDeclaredField(name);
                field.setAccessible(true);
                found = field.get(found);
            }
        } catch (ReflectiveOperationException wrong) {
            throw new IllegalStateException(wrong);
        }
        return found;
    }

    /** Adds one to a number that stands in an object, runs the check, and puts the number back. */
    static void withAnother(Object holder, String name, Runnable check) {
        try {
            Field field = holder.getClass().getDeclaredField(name);
            field.setAccessible(true);
            boolean isLong = field.getType() == long.class;
            long number = isLong ? field.getLong(holder) : field.getInt(holder);
            put(field, holder, number + 1);
            check.run();
            put(field, holder, number);
        } catch (ReflectiveOperationException wrong) {
            throw new IllegalStateException(wrong);
        }
    }

    private static void put(Field field, Object holder, long number) throws IllegalAccessException {
        if (field.getType() == long.class) {
            field.setLong(holder, number);
        } else {
            field.setInt(holder, (int) number);
        }
    }
}
