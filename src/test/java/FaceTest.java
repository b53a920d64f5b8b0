import java.io.IOException;
import java.lang.reflect.Constructor;
import java.lang.reflect.Field;
import java.lang.reflect.Method;
import java.lang.reflect.Modifier;
import java.nio.file.Files;
import java.nio.file.Path;
import java.util.ArrayList;
import java.util.HashSet;
import java.util.List;
import java.util.Set;
import java.util.TreeSet;
import java.util.regex.Matcher;
import java.util.regex.Pattern;

/** The class has the document's face and no other, and its source keeps to what can be seen of LANGUAGE.md. */
final class FaceTest {
    private static final Path DOCUMENT = Path.of("../shared/DOC.md");
    private static final Path SOURCE = Path.of("src/main/java/Ironpour.java");
    private static final String[] FORBIDDEN = {"->", "::", "Exact", "assert ", "synchronized", "finally", "import java.util.*",
        ".equals(", "hashCode", "toString", "System.out", "System.nano", "System.current", "Random", "Thread",
        "instanceof", "var ", "record ", "ArrayIndexOutOf", "NullPointer", "ClassCast", "NegativeArray", "catch"};

    public static void main(String[] arguments) throws IOException {
        face();
        nothingElse();
        source();
        Check.end("FaceTest");
    }

    private static void face() throws IOException {
        Set<String> due = new TreeSet<>();
        Matcher line = Pattern.compile("(?m)^    public (?:(\\w+) )?(\\w+)\\((.*?)\\)(?: throws (.*?))?;$")
                .matcher(Files.readString(DOCUMENT));
        while (line.find()) {
            StringBuilder text = new StringBuilder(line.group(1) + " " + line.group(2) + "(");
            for (String parameter : line.group(3).isEmpty() ? new String[0] : line.group(3).split(", ")) {
                text.append(parameter.split(" ")[0]).append(' ');
            }
            Set<String> thrown = new TreeSet<>();
            if (line.group(4) != null) {
                thrown.addAll(List.of(line.group(4).split(", ")));
            }
            due.add(text + ") " + thrown);
        }
        Check.same("lines of the face", due.size(), 51);
        due.remove("null Ironpour() []");
        Set<String> got = new TreeSet<>();
        for (Method method : Ironpour.class.getDeclaredMethods()) {
            if (!Modifier.isPrivate(method.getModifiers()) && !method.isSynthetic()) {
                Check.yes(method + " is public", Modifier.isPublic(method.getModifiers()));
                got.add(signature(method));
            }
        }
        Check.same("the methods", String.join("\n", got), String.join("\n", due));
    }

    private static String signature(Method method) {
        StringBuilder text = new StringBuilder(method.getReturnType().getSimpleName());
        text.append(' ').append(method.getName()).append('(');
        for (Class<?> parameter : method.getParameterTypes()) {
            text.append(parameter.getSimpleName()).append(' ');
        }
        Set<String> thrown = new TreeSet<>();
        for (Class<?> each : method.getExceptionTypes()) {
            thrown.add(each.getSimpleName());
        }
        return text.append(") ").append(thrown).toString();
    }

    private static void nothingElse() {
        Check.same("the class", Modifier.toString(Ironpour.class.getModifiers()), "public final");
        Constructor<?>[] constructors = Ironpour.class.getDeclaredConstructors();
        Check.same("constructors", constructors.length, 1);
        Check.same("parameters", constructors[0].getParameterCount(), 0);
        Set<String> publicNames = new HashSet<>();
        for (Method method : Ironpour.class.getMethods()) {
            publicNames.add(method.getName());
        }
        List<Class<?>> all = new ArrayList<>(List.of(Ironpour.class.getDeclaredClasses()));
        for (Class<?> inner : all) {
            Check.yes(inner + " is static", Modifier.isStatic(inner.getModifiers()));
            Check.no(inner + " is public", Modifier.isPublic(inner.getModifiers()));
        }
        all.add(Ironpour.class);
        Check.yes("some twelve classes", all.size() <= 12);
        for (Class<?> each : all) {
            int fields = 0;
            for (Field field : each.getDeclaredFields()) {
                Check.yes(field + " is private", Modifier.isPrivate(field.getModifiers()));
                boolean isStatic = Modifier.isStatic(field.getModifiers());
                Check.yes(field + " is final if it is static", !isStatic || Modifier.isFinal(field.getModifiers()));
                fields += isStatic ? 0 : 1;
            }
            Check.yes("some twenty fields in " + each, fields <= 20);
            for (Method method : each.getDeclaredMethods()) {
                boolean isOwn = each != Ironpour.class || Modifier.isPrivate(method.getModifiers());
                Check.no(method + " bears a public name", isOwn && publicNames.contains(method.getName()));
                Check.yes(method + " has seven parameters at most", method.getParameterCount() <= 7);
            }
        }
    }

    private static void source() throws IOException {
        String text = Files.readString(SOURCE);
        for (String each : FORBIDDEN) {
            Check.no("the source has " + each, text.contains(each));
        }
        for (char sign : text.toCharArray()) {
            Check.yes("plain signs", sign == '\n' || sign >= 32 && sign < 127);
        }
        Check.no("joined texts", Pattern.compile("\" \\+|\\+ \"").matcher(text).find());
        Matcher imports = Pattern.compile("(?m)^import (.*);$").matcher(text);
        while (imports.find()) {
            Check.yes(imports.group(1), Set.of("java.util.ArrayList", "java.util.Arrays",
                    "java.util.NoSuchElementException").contains(imports.group(1)));
        }
        int start = 0;
        String[] lines = text.split("\n");
        for (int i = 0; i < lines.length; i++) {
            Check.yes("line " + (i + 1) + " is short", lines[i].length() <= 120);
            if (lines[i].matches(" {4}( {4})?\\S.*\\) ?(throws .*)?\\{") && !lines[i].contains("class ")) {
                start = i;
            }
            if (lines[i].matches(" {4}( {4})?\\}")) {
                Check.yes("the method that ends in line " + (i + 1) + " is short", i - start < 60);
            }
        }
    }
}
