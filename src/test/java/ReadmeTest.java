import java.io.IOException;
import java.lang.reflect.Method;
import java.lang.reflect.Modifier;
import java.nio.file.Files;
import java.nio.file.Path;
import java.util.regex.Matcher;
import java.util.regex.Pattern;

/** README.md keeps its word: the answers in its examples are those given, and it names every call. */
public final class ReadmeTest {
    private static final Pattern EXAMPLE =
        Pattern.compile("x\\.(\\w+)\\(([^)]*)\\); *// (true|false|NONE|-?\\d+)(:.*)?");
    private static final int LEAST_EXAMPLES = 30;

    public static void main(String[] args) throws IOException {
        Due due = new Due();
        String readme = Files.readString(Path.of("README.md"));
        examples(due, readme);
        everyCallIsNamed(due, readme);
        due.isTrue("README.md tells how to run the tests", readme.contains(".ci/run"));
        due.end();
    }

    private static void examples(Due due, String readme) {
        PhaseCounts x = new PhaseCounts();
        int examples = 0;
        for (String line : readme.split("\n")) {
            if (line.equals("PhaseCounts x = new PhaseCounts();")) {
                x = new PhaseCounts();
            } else if (line.startsWith("x.")) {
                example(due, x, line);
                examples++;
            }
        }
        due.isTrue("README.md has examples", examples >= LEAST_EXAMPLES);
    }

    private static void example(Due due, PhaseCounts x, String line) {
        Matcher parts = EXAMPLE.matcher(line);
        due.isTrue("an example with its answer: " + line, parts.matches());
        if (!parts.matches()) return;
        String numbers = parts.group(2).replace("PhaseCounts.NONE", "-1").replace(",", " ");
        Call call = Call.run(parts.group(1) + " " + numbers).get(0);
        due.is("README.md", line, call.on(x), answer(parts.group(3)));
    }

    private static int answer(String text) {
        switch (text) {
            case "true": return 1;
            case "false": return 0;
            case "NONE": return -1;
            default: return Integer.parseInt(text);
        }
    }

    private static void everyCallIsNamed(Due due, String readme) {
        for (Method method : PhaseCounts.class.getDeclaredMethods()) {
            if (!Modifier.isPublic(method.getModifiers())) continue;
            due.isTrue("README.md names " + method.getName(), readme.contains("| `" + method.getName() + "("));
        }
        due.isTrue("README.md names the constructor", readme.contains("`new PhaseCounts()`"));
        due.isTrue("README.md names the constant", readme.contains("`PhaseCounts.NONE` is -1"));
    }
}
