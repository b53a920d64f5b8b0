import java.io.IOException;
import java.nio.file.Files;
import java.nio.file.Path;
import java.util.Set;
import java.util.TreeSet;
import java.util.regex.Matcher;
import java.util.regex.Pattern;

/** README.md names each call of the face, and its example answers what stands beside it. */
final class ReadmeTest {
    public static void main(String[] arguments) throws IOException {
        String text = Files.readString(Path.of("README.md"));
        namesEachCall(text);
        example(text);
        Check.end("ReadmeTest");
    }

    private static void namesEachCall(String text) throws IOException {
        Set<String> named = new TreeSet<>();
        Matcher line = Pattern.compile("(?m)^    public \\w+ (\\w+)\\(.*;$")
                .matcher(Files.readString(Path.of("../shared/DOC.md")));
        while (line.find()) {
            named.add(line.group(1));
            Check.yes("README.md names " + line.group(1), text.contains("`" + line.group(1) + "`"));
        }
        Check.same("calls of the document", named.size(), 50);
    }

    private static void example(String text) {
        Ironpour works = new Ironpour();
        stands(text, "works.draw('g', 4, 0, 3, 1);");
        works.draw('g', 4, 0, 3, 1);
        stands(text, "works.draw('r', 4, 1, 3, 4);");
        works.draw('r', 4, 1, 3, 4);
        stands(text, "works.draw('c', 5, 5, 1, 1);");
        works.draw('c', 5, 5, 1, 1);
        stands(text, "works.charge('p', 100);");
        works.charge('p', 100);
        stands(text, "works.tap(100);");
        works.tap(100);
        stands(text, "works.mould();");
        works.mould();
        stands(text, "int casting = works.pour();");
        int casting = works.pour();
        stands(text, "works.faults(casting);          // 0");
        Check.same("faults", works.faults(casting), 0);
        stands(text, "works.deliver(casting);         // true");
        Check.yes("deliver", works.deliver(casting));
        stands(text, "works.delivered();              // 32 kilograms");
        Check.same("delivered", works.delivered(), 32);
    }

    private static void stands(String text, String line) {
        Check.yes("README.md has " + line, text.contains(line));
    }
}
