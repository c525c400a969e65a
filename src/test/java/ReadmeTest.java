import java.io.ByteArrayOutputStream;
import java.io.IOException;
import java.io.PrintStream;
import java.lang.reflect.Method;
import java.lang.reflect.Modifier;
import java.nio.charset.StandardCharsets;
import java.nio.file.Files;
import java.nio.file.Path;
import java.util.Arrays;
import java.util.List;

/** README.md: its examples are the ones that are compiled here and print what it says, and each call has a row. */
public final class ReadmeTest {
    private static final Due DUE = new Due("ReadmeTest");

    public static void main(String[] args) throws IOException {
        String readme = textOf("README.md");
        example(readme, "ReadExample", printedBy(() -> ReadExample.main(new String[0])));
        example(readme, "RefuseExample", printedBy(() -> RefuseExample.main(new String[0])));
        rows(readme);
        DUE.end();
    }

    private static String textOf(String file) throws IOException {
        return Files.readString(Path.of(file)).replace("\r\n", "\n");
    }

    private static String printedBy(Runnable example) {
        PrintStream out = System.out;
        ByteArrayOutputStream printed = new ByteArrayOutputStream();
        System.setOut(new PrintStream(printed, true, StandardCharsets.UTF_8));
        try {
            example.run();
        } finally {
            System.setOut(out);
        }
        return printed.toString(StandardCharsets.UTF_8).replace("\r\n", "\n");
    }

    private static void example(String readme, String name, String printed) throws IOException {
        DUE.sentence("README.md says how to use the class: " + name);
        String code = "```java\n" + textOf("src/test/java/" + name + ".java") + "```\n";
        int from = readme.indexOf(code);
        DUE.is("its code stands in README.md", from >= 0, true);
        int text = readme.indexOf("```text\n", Math.max(from, 0));
        DUE.is("what it prints stands behind it: " + printed,
            text >= 0 && readme.startsWith(printed + "```\n", text + "```text\n".length()), true);
    }

    /** A row names the call, its parameters' types in their order, and all that it throws. */
    private static void rows(String readme) {
        DUE.sentence("README.md says how to use the class: each call of the face");
        DUE.is("the row of the constructor", readme.contains("\n| `PageReader()` |"), true);
        List<String> lines = Arrays.asList(readme.split("\n"));
        for (Method call : PageReader.class.getDeclaredMethods()) {
            if (Modifier.isPublic(call.getModifiers())) {
                long rows = lines.stream().filter(line -> isRowOf(call, line)).count();
                DUE.is("rows of " + call.getName() + "(..) with what it throws", rows, 1);
            }
        }
    }

    private static boolean isRowOf(Method call, String line) {
        StringBuilder head = new StringBuilder("\\| `" + call.getName() + "\\(");
        for (int i = 0; i < call.getParameterCount(); i++) {
            head.append(i == 0 ? "" : ", ").append(call.getParameterTypes()[i]).append(" [a-z]+");
        }
        return line.matches(head + "\\)` \\|.*")
            && Arrays.stream(call.getExceptionTypes()).allMatch(e -> line.contains("`" + e.getSimpleName() + "`:"))
            && line.split("Exception`:", -1).length - 1 == call.getExceptionTypes().length;
    }
}
