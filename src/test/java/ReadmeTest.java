import java.io.IOException;
import java.lang.reflect.Method;
import java.lang.reflect.Modifier;
import java.nio.file.Files;
import java.nio.file.Path;
import java.util.List;

/**
 * README.md has an example for each method, with an answer and with each exception; that the answers are
 * right is checked by the program that ReadmeExamples makes of them.
 */
public final class ReadmeTest {
    private static final Check CHECK = new Check();

    public static void main(String[] args) throws IOException {
        ReadmeExamples readme = new ReadmeExamples(Files.readAllLines(Path.of("README.md")));
        CHECK.same("faults of README.md", readme.faults(), List.of());
        for (Method method : FormatDump.class.getDeclaredMethods()) {
            if (Modifier.isPublic(method.getModifiers())) {
                everyAnswer(readme, method);
            }
        }
        for (String answer : new String[] {"NONE", "BAD", "FULL"}) {
            CHECK.same("an example that answers " + answer,
                    readme.examples().stream().anyMatch(e -> e.answer().equals(answer)), true);
        }
        whatIsNoExample();
        CHECK.end();
    }

    private static void everyAnswer(ReadmeExamples readme, Method method) {
        CHECK.same("an example of " + method.getName(), readme.examples().stream()
                .anyMatch(e -> isCallOf(e, method) && !e.answer().startsWith("throws ")), true);
        for (Class<?> thrown : method.getExceptionTypes()) {
            String answer = "throws " + thrown.getSimpleName();
            CHECK.same("an example of " + method.getName() + " that " + answer, readme.examples().stream()
                    .anyMatch(e -> isCallOf(e, method) && e.answer().equals(answer)), true);
        }
    }

    private static boolean isCallOf(ReadmeExamples.Example example, Method method) {
        return example.call().startsWith("x." + method.getName() + "(");
    }

    private static void whatIsNoExample() {
        CHECK.same("a call without an answer", faultsOf("x.print();"), 1);
        CHECK.same("an answer that is none", faultsOf("x.print(); // five"), 1);
        CHECK.same("a statement that is no call", faultsOf("int k = 1; // 1"), 1);
        CHECK.same("a block without an end", new ReadmeExamples(List.of("```java", "x.print(); // 5")).faults().size(), 1);
        CHECK.same("calls with their answers", faultsOf("FormatDump x = new FormatDump();", "x.print();  // 0",
                "x.room(1); // nothing", "x.room(-1); // throws IllegalArgumentException: below 0", "", "// a remark",
                "output(x); // \"a \\\" b\", and so on"), 0);
    }

    private static int faultsOf(String... lines) {
        return new ReadmeExamples(List.of(("```java\n" + String.join("\n", lines) + "\n```").split("\n"))).faults().size();
    }
}
