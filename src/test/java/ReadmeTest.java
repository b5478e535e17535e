import java.io.File;
import java.io.IOException;
import java.io.UncheckedIOException;
import java.nio.charset.StandardCharsets;
import java.nio.file.Files;
import java.nio.file.Path;
import java.nio.file.StandardCopyOption;
import java.util.ArrayList;
import java.util.Comparator;
import java.util.List;
import java.util.Set;
import java.util.TreeSet;
import java.util.regex.Matcher;
import java.util.regex.Pattern;

/** README.md: what it says of the use of the class holds, and its way to run the tests runs them. */
public final class ReadmeTest {
    private static final Path README = Path.of("README.md");
    private static final Path SHIP = Path.of("src/main/java/SquareRig.java");
    private static final Path TESTS = Path.of("src/test/java");
    private static final Path CI = Path.of(".ci/run");
    private static final String PASSES = "";
    private static final String FAILS = "System.exit(1);";
    private static final String THROWS = "throw new IllegalStateException();";
    private static final String IS_NO_JAVA = "this is no Java";

    private ReadmeTest() {
    }

    public static void main(String[] args) throws IOException, InterruptedException {
        String page = Files.readString(README);
        theProgramPrintsWhatThePageSays(page);
        theTableNamesEachTest(page);
        theClassesThatItNamesStand(page);
        theWayToTestRunsTheTests(page);
        Check.end();
    }

    private static void theProgramPrintsWhatThePageSays(String page) throws IOException, InterruptedException {
        Path place = Files.createTempDirectory("readme");
        try {
            copy(SHIP, place);
            Files.writeString(place.resolve("Passage.java"), block(page, "java", 0));
            Answer last = new Answer(-1, "no command was found");
            for (String command : block(page, "sh", 0).split("\n")) {
                last = run(place, command);
                Check.same("the exit code of " + command, last.code, 0);
            }
            Check.same("what the program prints", last.text, block(page, "text", 0));
        } finally {
            remove(place);
        }
    }

    private static void theTableNamesEachTest(String page) {
        Set<String> found = new TreeSet<>();
        for (String name : names(TESTS)) {
            if (name.endsWith("Test.java")) {
                found.add(name.replace(".java", ""));
            }
        }
        Set<String> named = new TreeSet<>();
        Matcher row = Pattern.compile("(?m)^\\| `(\\w+)` \\|").matcher(page);
        while (row.find()) {
            named.add(row.group(1));
        }
        Check.same("the tests of the table", named, found);
    }

    private static void theClassesThatItNamesStand(String page) throws IOException {
        StringBuilder all = new StringBuilder(Files.readString(SHIP));
        for (String name : names(TESTS)) {
            all.append(Files.readString(TESTS.resolve(name)));
        }
        Matcher name = Pattern.compile("`([A-Z]\\w+)`").matcher(page);
        while (name.find()) {
            Check.same("a class " + name.group(1), all.indexOf("class " + name.group(1) + " ") >= 0, true);
        }
    }

    private static void theWayToTestRunsTheTests(String page) throws IOException, InterruptedException {
        String command = block(page, "sh", 1).trim();
        Check.same("the script can be run", Files.isExecutable(CI), true);
        Answer good = tried(command, PASSES, PASSES, true);
        Check.same("when all pass", good.code, 0);
        Check.same("the test of the project ran", good.text.contains("a test of the project"), true);
        Check.same("the shared test ran", good.text.contains("a shared test"), true);
        Check.same("when a test fails", tried(command, FAILS, PASSES, true).code, 1);
        Check.same("when a test throws", tried(command, THROWS, PASSES, true).code, 1);
        Check.same("when a test is no Java", tried(command, IS_NO_JAVA, PASSES, true).code, 1);
        Check.same("when a shared test fails", tried(command, PASSES, FAILS, true).code, 1);
        Check.same("when a shared test throws", tried(command, PASSES, THROWS, true).code, 1);
        Check.same("when a shared test is no Java", tried(command, PASSES, IS_NO_JAVA, true).code, 1);
        Check.same("when the class is not there", tried(command, PASSES, PASSES, false).code, 1);
        Check.same("when there is no test", tried(command, null, PASSES, true).code, 1);
        Check.same("when there is no shared test", tried(command, PASSES, null, true).code, 1);
    }

    /** Runs the script in a project of one test and one shared test, of which each does this, or is not there. */
    private static Answer tried(String command, String test, String shared, boolean hasClass) throws IOException, InterruptedException {
        Path top = Files.createTempDirectory("project");
        Path project = Files.createDirectory(top.resolve("main"));
        try {
            copy(CI, project);
            if (hasClass) {
                copy(SHIP, project);
            }
            writeTest(project.resolve(TESTS), "OneTest", "a test of the project", test);
            writeTest(top.resolve("shared/tests"), "SharedRuns", "a shared test", shared);
            return run(project, command);
        } finally {
            remove(top);
        }
    }

    private static void writeTest(Path place, String name, String says, String does) throws IOException {
        Files.createDirectories(place);
        if (does != null) {
            String main = "new SquareRig(); System.out.println(\"" + says + "\"); " + does;
            Files.writeString(place.resolve(name + ".java"),
                "public class " + name + " { public static void main(String[] args) { " + main + " } }\n");
        }
    }

    /** What stands in a block of this kind on the page, the first one being 0. */
    private static String block(String page, String kind, int number) {
        Matcher block = Pattern.compile("(?ms)^```" + kind + "\n(.*?)^```$").matcher(page);
        for (int i = 0; block.find(); i++) {
            if (i == number) {
                return block.group(1);
            }
        }
        Check.same("the page has a block of " + kind, false, true);
        return "";
    }

    private static Answer run(Path place, String command) throws IOException, InterruptedException {
        Process process = new ProcessBuilder(command.split(" "))
            .directory(place.toFile()).redirectErrorStream(true).start();
        String text = new String(process.getInputStream().readAllBytes(), StandardCharsets.UTF_8);
        return new Answer(process.waitFor(), text);
    }

    private static List<String> names(Path place) {
        List<String> names = new ArrayList<>();
        File[] files = place.toFile().listFiles();
        for (File file : files == null ? new File[0] : files) {
            names.add(file.getName());
        }
        return names;
    }

    /** Copies a file of the project to the same path of another project. */
    private static void copy(Path file, Path project) throws IOException {
        Path goal = project.resolve(file);
        Files.createDirectories(goal.getParent());
        Files.copy(file, goal, StandardCopyOption.COPY_ATTRIBUTES);
    }

    private static void remove(Path place) throws IOException {
        try (var all = Files.walk(place)) {
            all.sorted(Comparator.reverseOrder()).forEach(ReadmeTest::removeOne);
        }
    }

    private static void removeOne(Path path) {
        try {
            Files.delete(path);
        } catch (IOException e) {
            throw new UncheckedIOException(e);
        }
    }

    /** How a command ended, and what it printed. */
    private record Answer(int code, String text) {
    }
}
