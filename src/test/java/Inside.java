import java.lang.reflect.Array;
import java.lang.reflect.Field;
import java.lang.reflect.Modifier;
import java.util.List;
import java.util.Set;

/** All that a works holds, as a text, but for what can be reckoned from the rest: finer than what can be asked. */
final class Inside {
    private static final Set<String> RECKONED = Set.of("trial", "spareTrial", "seen", "queue");

    private Inside() {
    }

    static String of(Ironpour works) {
        StringBuilder text = new StringBuilder();
        try {
            tell(works, text);
        } catch (IllegalAccessException wrong) {
            throw new IllegalStateException(wrong);
        }
        return text.toString();
    }

    private static void tell(Object told, StringBuilder text) throws IllegalAccessException {
        if (told instanceof List) {
            for (Object each : (List<?>) told) {
                tell(each, text);
            }
        } else if (told.getClass().isArray()) {
            for (int i = 0; i < Array.getLength(told); i++) {
                text.append(Array.get(told, i)).append(' ');
            }
        } else if (told.getClass().getName().startsWith("Ironpour")) {
            for (Field field : told.getClass().getDeclaredFields()) {
                if (!Modifier.isStatic(field.getModifiers()) && !RECKONED.contains(field.getName())) {
                    field.setAccessible(true);
                    text.append('\n').append(field.getName()).append(": ");
                    tell(field.get(told), text);
                }
            }
        } else {
            text.append(told);
        }
    }
}
