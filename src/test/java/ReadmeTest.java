import java.io.IOException;
import java.nio.file.Files;
import java.nio.file.Path;
import java.util.HashSet;
import java.util.Set;
import java.util.regex.Matcher;
import java.util.regex.Pattern;
import java.util.stream.Collectors;
import java.util.stream.Stream;

/** What README.md tells is so: its example's answers, its table of STATUS, its table of tests, its last sentence of use. */
public final class ReadmeTest {
    private static final Pattern EXAMPLE = Pattern.compile("```java\n(.*?)```", Pattern.DOTALL);
    private static final Pattern CALL = Pattern.compile("desk\\.(\\w+\\([^()]*\\)); +// (-?\\d+)(: .*)?");
    private static final Pattern STATUS_ROW = Pattern.compile("^\\| (\\d+) \\| ", Pattern.MULTILINE);
    private static final Pattern TEST_NAME = Pattern.compile("\\b\\w+Test\\b");

    public static void main(String[] args) throws IOException {
        String readme = Files.readString(Path.of("README.md"));
        examples(readme);
        statuses(readme);
        tests(readme);
        changesBeyondTheLast();
        Script.finish();
    }

    private static void examples(String readme) {
        Matcher example = EXAMPLE.matcher(readme);
        int many = 0;
        while (example.find()) {
            many++;
            runExample(example.group(1).split("\n"));
        }
        Script.due("examples of use", many, 1);
    }

    private static void runExample(String[] rows) {
        BoreDesk desk = new BoreDesk();
        Script.due("the example begins with a new desk", rows[0].equals("BoreDesk desk = new BoreDesk();") ? 1 : 0, 1);
        for (int k = 1; k < rows.length; k++) {
            Matcher call = CALL.matcher(rows[k]);
            if (call.matches()) {
                Script.due("README.md: " + call.group(1), Script.call(desk, call.group(1)), Long.parseLong(call.group(2)));
            } else if (!rows[k].isEmpty() && !rows[k].startsWith("// ")) {
                Script.fail("README.md: no call with its answer: " + rows[k]);
            }
        }
    }

    private static void statuses(String readme) {
        Matcher row = STATUS_ROW.matcher(readme);
        Set<Integer> told = new HashSet<>();
        while (row.find()) {
            told.add(Integer.valueOf(row.group(1)));
        }
        if (!told.equals(Set.of(1, 2, 3, 4, 5, 6, 7, 9, 10))) {
            Script.fail("README.md tells of STATUS " + told);
        }
    }

    private static void tests(String readme) throws IOException {
        Set<String> named = new HashSet<>();
        Matcher name = TEST_NAME.matcher(readme);
        while (name.find()) {
            named.add(name.group());
        }
        if (!named.equals(testsThere())) {
            Script.fail("README.md names the tests " + named + ", there are " + testsThere());
        }
        Script.due("README.md tells of .ci/run", readme.contains("\n    .ci/run\n") ? 1 : 0, 1);
        Script.due(".ci/run can be run", Files.isExecutable(Path.of(".ci/run")) ? 1 : 0, 1);
    }

    private static Set<String> testsThere() throws IOException {
        try (Stream<Path> files = Files.list(Path.of("src/test/java"))) {
            return files.map(file -> file.getFileName().toString()).filter(name -> name.endsWith("Test.java"))
                    .map(name -> name.replace(".java", "")).collect(Collectors.toSet());
        }
    }

    private static void changesBeyondTheLast() {
        BoreDesk desk = new BoreDesk();
        desk.layer(2);
        for (int k = 0; k < 600; k++) {
            Script.due("a change beyond the 512th call", desk.throwOf(0, k), k);
        }
        for (int k = 0; k < 512; k++) {
            Script.due("undo() of one of the latest 512 changes", desk.undo(), 1);
        }
        Script.due("undo() of one ahead of them", desk.undo(), 0);
        Script.due("the LAYER is there", desk.tell(0), 2000);
    }
}
