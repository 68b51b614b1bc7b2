import java.io.IOException;
import java.lang.reflect.Field;
import java.lang.reflect.Method;
import java.lang.reflect.Modifier;
import java.nio.file.DirectoryStream;
import java.nio.file.Files;
import java.nio.file.Path;
import java.util.List;
import java.util.Set;
import java.util.TreeSet;

/** README.md: it tells of every call, constant and test, and of none that there isn't. */
public final class ReadmeTest extends SessionChecks {
    private static final Path TESTS = Path.of("src", "test", "java");

    private static List<String> readme;

    public static void main(String[] args) throws IOException, IllegalAccessException {
        readme = Files.readAllLines(Path.of("README.md"));
        everyCallHasARow();
        everyCallIsShown();
        everyConstantIsTold();
        everyTestHasARow();
        end("ReadmeTest");
    }

    private static void everyCallHasARow() {
        at("README.md: the table of calls");
        Set<String> calls = new TreeSet<>();
        for (String cell : rowsOf("call")) {
            String name = cell.replaceAll("\\(.*", "");
            calls.add(name);
            due("parameters of " + cell, cell.endsWith("()") ? 0 : cell.split(",").length, parametersOf(name));
        }
        sameNames(calls, methods());
    }

    private static void everyCallIsShown() {
        at("README.md: the examples");
        for (String name : methods()) {
            due("show " + name, readme.stream().anyMatch(line -> line.contains("x." + name + "(")) ? 1 : 0, 1);
        }
    }

    private static void everyConstantIsTold() throws IllegalAccessException {
        at("README.md: the table of constants");
        Set<String> constants = new TreeSet<>();
        for (Field field : BlockTargetSession.class.getFields()) {
            constants.add(field.getName());
            String row = "| `" + field.getName() + "` | " + field.getLong(null) + " |";
            due("has " + row, readme.stream().filter(line -> line.startsWith(row)).count(), 1);
        }
        sameNames(new TreeSet<>(rowsOf("constant")), constants);
    }

    private static void everyTestHasARow() throws IOException {
        at("README.md: the table of tests");
        Set<String> tests = new TreeSet<>();
        try (DirectoryStream<Path> files = Files.newDirectoryStream(TESTS, "*Test.java")) {
            files.forEach(file -> tests.add(file.getFileName().toString().replace(".java", "")));
        }
        sameNames(new TreeSet<>(rowsOf("test")), tests);
    }

    /** The first cells, without their quotes, of the table whose first column has this head. */
    private static List<String> rowsOf(String head) {
        return readme.stream()
                .dropWhile(line -> !line.startsWith("| " + head + " |"))
                .takeWhile(line -> line.startsWith("|"))
                .skip(2)
                .map(line -> line.replaceAll("^\\| `([^`]*)`.*", "$1"))
                .toList();
    }

    private static void sameNames(Set<String> told, Set<String> due) {
        for (String name : due) {
            due("tells of " + name, told.contains(name) ? 1 : 0, 1);
        }
        for (String name : told) {
            due("there is a " + name, due.contains(name) ? 1 : 0, 1);
        }
    }

    private static Set<String> methods() {
        Set<String> names = new TreeSet<>();
        for (Method method : BlockTargetSession.class.getDeclaredMethods()) {
            if (Modifier.isPublic(method.getModifiers())) {
                names.add(method.getName());
            }
        }
        return names;
    }

    private static int parametersOf(String name) {
        for (Method method : BlockTargetSession.class.getMethods()) {
            if (method.getName().equals(name)) {
                return method.getParameterCount();
            }
        }
        return -1;
    }
}
