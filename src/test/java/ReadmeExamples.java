import java.io.IOException;
import java.nio.file.Files;
import java.nio.file.Path;
import java.util.List;
import java.util.regex.Matcher;
import java.util.regex.Pattern;

/**
 * Prints a test, the class ReadmeRuns, made of the Java examples in README.md: every call of theirs
 * must answer what the comment behind it says. Made into Java, a call that javac refuses fails too.
 */
final class ReadmeExamples {
    private static final String BEGIN = "```java";
    private static final String END = "```";
    private static final Pattern MAKING = Pattern.compile("BlockTargetSession x = new .*;( // .*)?");
    /** A call whose answer may be kept, and behind it the answer, and why it is so. */
    private static final Pattern CALL =
            Pattern.compile("(?:(?:int|long) (\\w+) = )?(x\\.\\w+\\(.*\\)); +// (-?\\w+)(: .+)?");

    private final StringBuilder body = new StringBuilder();
    private int examples = 0;
    private boolean within = false;

    private ReadmeExamples() {
    }

    public static void main(String[] args) throws IOException {
        ReadmeExamples made = new ReadmeExamples();
        List<String> lines = Files.readAllLines(Path.of("README.md"));
        for (int n = 0; n < lines.size(); n++) {
            if (!made.take(lines.get(n), n + 1)) {
                System.err.println("README.md line " + (n + 1) + " is no call with its answer: " + lines.get(n));
                System.exit(1);
            }
        }
        made.print();
    }

    /** Answers whether the line could be read. */
    private boolean take(String line, int number) {
        if (!within) {
            if (line.equals(BEGIN)) {
                within = true;
                body.append("    private static void example").append(examples).append("() {\n");
            }
            return true;
        }
        if (line.equals(END)) {
            within = false;
            examples++;
            body.append("    }\n\n");
            return true;
        }
        if (MAKING.matcher(line).matches()) {
            body.append("        ").append(line).append('\n');
            return true;
        }
        Matcher call = CALL.matcher(line);
        if (!call.matches()) {
            return false;
        }
        takeCall(line, number, call.group(1), call.group(2), call.group(3));
        return true;
    }

    private void takeCall(String line, int number, String kept, String call, String answer) {
        if (kept != null) {
            body.append("        ").append(line).append('\n');
        }
        body.append("        due(\"line ").append(number).append(", ").append(call).append("\", ")
                .append(kept == null ? call : kept).append(", ").append(answer).append(");\n");
    }

    private void print() {
        System.out.println("public final class ReadmeRuns extends SessionChecks {");
        System.out.print(body);
        System.out.println("    public static void main(String[] args) {");
        System.out.println("        at(\"README.md\");");
        for (int n = 0; n < examples; n++) {
            System.out.println("        example" + n + "();");
        }
        System.out.println("        end(\"ReadmeRuns\");");
        System.out.println("    }");
        System.out.println("}");
    }
}
