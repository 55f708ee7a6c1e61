import java.io.IOException;
import java.lang.reflect.Method;
import java.lang.reflect.Modifier;
import java.nio.file.Files;
import java.nio.file.Path;
import java.util.List;
import java.util.regex.Matcher;
import java.util.regex.Pattern;

/** README.md tells every call of the face, and its example answers what it says there. */
public final class ReadmeTest {
    private static final Pattern CALL = Pattern.compile("x\\.(\\w+)\\((-?\\w+)(?:, (-?\\w+))?\\);");
    /** A remark that begins with a number says what the last call of its line answers. */
    private static final Pattern ANSWER = Pattern.compile("// (-?\\d+)\\b");

    private static final Check CHECK = new Check();

    public static void main(String[] args) throws IOException {
        List<String> lines = Files.readAllLines(Path.of("README.md"));
        everyCallIsTold(String.join("\n", lines));
        exampleHolds(example(lines));
        CHECK.finish();
    }

    private static void everyCallIsTold(String readme) {
        for (Method m : WarpSearch.class.getDeclaredMethods()) {
            if (Modifier.isPublic(m.getModifiers())) {
                CHECK.same(m.getName() + " has a row in README.md", readme.contains("| `" + m.getName() + "("), true);
                CHECK.same(m.getName() + " is in its example", readme.contains("x." + m.getName() + "("), true);
            }
        }
    }

    private static List<String> example(List<String> lines) {
        int from = lines.indexOf("```java");
        List<String> rest = lines.subList(from + 1, lines.size());
        return rest.subList(0, rest.indexOf("```"));
    }

    private static void exampleHolds(List<String> example) {
        WarpSearch x = new WarpSearch();
        int answers = 0;
        for (String line : example) {
            String last = "";
            Matcher call = CALL.matcher(line);
            while (call.find()) {
                last = Call.of(call.group(1), number(call.group(2)), number(call.group(3))).on(x);
                CHECK.same(call.group() + " is refused", last.startsWith("throws."), false);
            }
            Matcher answer = ANSWER.matcher(line);
            if (answer.find()) {
                answers++;
                CHECK.same(line.strip(), last, answer.group(1));
            }
        }
        CHECK.same("the example tells answers", answers > 0, true);
    }

    /** An argument as Call takes it, where a boolean is 0 or 1. */
    private static int number(String text) {
        if (text == null || text.equals("false")) {
            return 0;
        }
        return text.equals("true") ? 1 : Integer.parseInt(text);
    }
}
