import java.io.IOException;
import java.nio.file.Files;
import java.nio.file.Path;
import java.util.ArrayList;
import java.util.List;
import java.util.regex.Matcher;
import java.util.regex.Pattern;

/**
 * The java blocks of README.md: blocks with static methods, which the examples use, and examples, whose every
 * call has its answer beside it. Run with a README and a file, it writes a program that checks each answer.
 */
final class ReadmeExamples {
    private static final Pattern MADE = Pattern.compile("FormatDump \\w+ = new FormatDump\\(\\);(\\s*//.*)?");
    private static final Pattern CALL = Pattern.compile("(\\S.*\\));\\s*// (.*)");
    private static final Pattern ANSWER = Pattern.compile(
            "(nothing|throws \\w+|NONE|BAD|FULL|-?\\d+|\"(?:[^\"\\\\]|\\\\.)*\")(?:[,:] .*)?");

    /** A call as it stands in the README, and the answer beside it. */
    record Example(int line, String call, String answer) {
    }

    private final List<String> methods = new ArrayList<>();
    private final List<String> runs = new ArrayList<>();
    private final List<Example> examples = new ArrayList<>();
    private final List<String> faults = new ArrayList<>();

    ReadmeExamples(List<String> readme) {
        int begin = -1;
        for (int k = 0; k < readme.size(); k++) {
            String line = readme.get(k);
            if (begin < 0 && line.equals("```java")) {
                begin = k + 1;
            } else if (begin >= 0 && line.equals("```")) {
                takeBlock(readme.subList(begin, k), begin + 1);
                begin = -1;
            }
        }
        if (begin >= 0) {
            faults.add("a java block has no end");
        }
    }

    List<Example> examples() {
        return examples;
    }

    /** What is neither a static method nor an example with its answer. */
    List<String> faults() {
        return faults;
    }

    private void takeBlock(List<String> lines, int first) {
        if (lines.stream().anyMatch(line -> line.startsWith("static "))) {
            methods.addAll(lines);
            return;
        }
        StringBuilder run = new StringBuilder();
        for (int k = 0; k < lines.size(); k++) {
            String line = lines.get(k);
            if (!line.isBlank() && !line.startsWith("//")) {
                run.append("        ").append(checkOf(line, first + k)).append("\n");
            }
        }
        runs.add(run.toString());
    }

    private String checkOf(String line, int number) {
        if (MADE.matcher(line).matches()) {
            return line;
        }
        Matcher call = CALL.matcher(line);
        Matcher answer = ANSWER.matcher(call.matches() ? call.group(2) : "");
        if (!answer.matches()) {
            faults.add("line " + number + " is no call with its answer: " + line);
            return "";
        }
        examples.add(new Example(number, call.group(1), answer.group(1)));
        return checkOf(examples.get(examples.size() - 1));
    }

    private static String checkOf(Example example) {
        String call = example.call();
        String answer = example.answer();
        String name = "README.md, line " + example.line() + ": " + call;
        String quoted = "\"" + name.replace("\\", "\\\\").replace("\"", "\\\"") + "\"";
        if (answer.equals("nothing")) {
            return call + ";";
        }
        if (answer.startsWith("throws ")) {
            return "CHECK.fails(" + quoted + ", " + answer.substring(7) + ".class, () -> " + call + ");";
        }
        boolean named = Character.isLetter(answer.charAt(0));
        return "CHECK.same(" + quoted + ", " + call + ", " + (named ? "FormatDump." : "") + answer + ");";
    }

    String program(String name) {
        StringBuilder all = new StringBuilder();
        StringBuilder calls = new StringBuilder();
        all.append("final class ").append(name).append(" {\n");
        all.append("    private static final Check CHECK = new Check();\n\n");
        for (String line : methods) {
            all.append(line.isEmpty() ? "" : "    ").append(line).append("\n");
        }
        for (int k = 0; k < runs.size(); k++) {
            all.append("\n    private static void run").append(k).append("() {\n").append(runs.get(k)).append("    }\n");
            calls.append("        run").append(k).append("();\n");
        }
        all.append("\n    public static void main(String[] args) {\n").append(calls);
        return all.append("        CHECK.end();\n    }\n}\n").toString();
    }

    public static void main(String[] args) throws IOException {
        Path to = Path.of(args[1]);
        ReadmeExamples readme = new ReadmeExamples(Files.readAllLines(Path.of(args[0])));
        String name = to.getFileName().toString().replace(".java", "");
        Files.writeString(to, readme.program(name));
    }
}
