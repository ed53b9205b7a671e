import java.io.IOException;
import java.nio.file.Files;
import java.nio.file.Path;
import java.util.List;
import java.util.Set;
import java.util.TreeSet;
import java.util.regex.Matcher;
import java.util.regex.Pattern;
import java.util.stream.Collectors;
import java.util.stream.Stream;

/** README.md stands: the answers that it tells are given, and it lists each test. */
public final class ReadmeTest {
    private static final Pattern CALL = Pattern.compile("house\\.(\\w+\\(.*\\)); +// (-?[\\w.]+)(:.*)?");

    private ReadmeTest() {
    }

    public static void main(String[] args) throws IOException {
        Path project = Path.of(System.getProperty("project", "."));
        Check check = new Check();
        List<String> lines = Files.readAllLines(project.resolve("README.md"));
        calls(check, lines);
        Set<String> listed = new TreeSet<>();
        Matcher name = Pattern.compile("`(\\w+Test)`").matcher(String.join("\n", lines));
        while (name.find()) {
            listed.add(name.group(1));
        }
        check.due(testsOf(project).toString(), "the tests that README.md lists", () -> listed.toString());
        check.end();
    }

    private static Set<String> testsOf(Path project) throws IOException {
        try (Stream<Path> files = Files.list(project.resolve("src/test/java"))) {
            return files.map(file -> file.getFileName().toString()).filter(file -> file.endsWith("Test.java"))
                    .map(file -> file.replace(".java", "")).collect(Collectors.toCollection(TreeSet::new));
        }
    }

    private static void calls(Check check, List<String> lines) {
        AnnuityHouse house = new AnnuityHouse();
        Set<String> methods = new TreeSet<>();
        boolean isCode = false;
        for (String line : lines) {
            isCode = line.startsWith("```") ? line.equals("```java") : isCode;
            if (isCode && line.startsWith("house.")) {
                Matcher call = CALL.matcher(line);
                check.due(true, "told as a call and its answer: " + line, () -> call.matches());
                String told = call.group(1).replace("AnnuityHouse.", "");
                String due = call.group(2).replaceFirst("Exception$", "").replaceFirst("^AnnuityHouse\\.NONE$", "-1");
                check.due(due, line, () -> Script.answer(house, told));
                methods.add(told.replaceFirst("\\(.*", ""));
            }
        }
        check.due(true, "calls were found", () -> methods.size() > 25);
    }
}
