import java.io.ByteArrayOutputStream;
import java.io.File;
import java.io.IOException;
import java.io.PrintStream;
import java.net.URL;
import java.net.URLClassLoader;
import java.nio.charset.StandardCharsets;
import java.nio.file.Files;
import java.nio.file.Path;
import java.util.ArrayList;
import java.util.List;
import java.util.Set;
import java.util.TreeSet;
import java.util.regex.Matcher;
import java.util.regex.Pattern;
import javax.tools.JavaCompiler;
import javax.tools.ToolProvider;

/** What README.md tells is so: its programs print what stands below them, and its lists are whole. */
public final class ReadmeTest {
    private static final Path TESTS = Path.of("src/test/java");

    private ReadmeTest() {
    }

    private static String read(Path path) throws IOException {
        return Files.readString(path, StandardCharsets.UTF_8);
    }

    private static String compiled(String source, String name, Path place) throws IOException {
        Path file = place.resolve(name + ".java");
        Files.writeString(file, source);
        JavaCompiler compiler = ToolProvider.getSystemJavaCompiler();
        if (compiler == null) {
            return "no compiler";
        }
        ByteArrayOutputStream told = new ByteArrayOutputStream();
        String path = System.getProperty("java.class.path");
        compiler.run(null, told, told, "-Xlint:all", "-cp", path, "-d", place.toString(), file.toString());
        return told.toString(StandardCharsets.UTF_8);
    }

    private static String printed(String name, Path place) throws IOException {
        PrintStream screen = System.out;
        ByteArrayOutputStream paper = new ByteArrayOutputStream();
        try (URLClassLoader loader = new URLClassLoader(new URL[] {place.toUri().toURL()})) {
            System.setOut(new PrintStream(paper, true, StandardCharsets.UTF_8));
            loader.loadClass(name).getMethod("main", String[].class).invoke(null, (Object) new String[0]);
        } catch (ReflectiveOperationException e) {
            return e.toString();
        } finally {
            System.setOut(screen);
        }
        return paper.toString(StandardCharsets.UTF_8).replace(System.lineSeparator(), "\n");
    }

    private static void removeAll(Path place) {
        File[] files = place.toFile().listFiles();
        for (File file : files == null ? new File[0] : files) {
            file.delete();
        }
        place.toFile().delete();
    }

    /** Each program of the page, and what the page says that it prints. */
    private static void checkPrograms(String readme) throws IOException {
        Matcher program = Pattern.compile("```java\n(.*?)```\n\n```text\n(.*?)```\n", Pattern.DOTALL).matcher(readme);
        List<String> names = new ArrayList<>();
        while (program.find()) {
            String source = program.group(1);
            String due = program.group(2);
            Matcher named = Pattern.compile("public final class (\\w+)").matcher(source);
            Checks.due(true, named::find);
            String name = named.group(1);
            names.add(name);
            Path place = Files.createTempDirectory("readme");
            String told = compiled(source, name, place);
            Checks.due("", () -> told);
            String paper = printed(name, place);
            Checks.due(due, () -> paper);
            removeAll(place);
        }
        Checks.due(List.of("Night", "Lost"), () -> names);
        Checks.due(names.size(), () -> readme.split("```java\n", -1).length - 1);
    }

    /** The table has each promise but the first one, with the names of what the call takes. */
    private static void checkTable(String readme) throws IOException {
        Pattern promise = Pattern.compile("## Promise (\\d+): (\\w+)\n\n`\\w+ (\\w+)\\(([^)]*)\\)");
        Matcher found = promise.matcher(read(Path.of("../shared/DOC.md")));
        List<String> due = new ArrayList<>();
        while (found.find()) {
            StringBuilder names = new StringBuilder();
            for (String argument : found.group(4).isEmpty() ? new String[0] : found.group(4).split(", ")) {
                names.append(names.length() == 0 ? "" : ", ").append(argument.split(" ")[1]);
            }
            due.add(found.group(1) + " | `" + found.group(3) + "(" + names + ")`");
        }
        Checks.due(49, () -> due.size());
        Matcher row = Pattern.compile("^\\| (\\d+ \\| `[^`]*`) \\| [^|]+ \\|$", Pattern.MULTILINE).matcher(readme);
        List<String> told = new ArrayList<>();
        while (row.find()) {
            told.add(row.group(1));
        }
        Checks.due(due, () -> told);
    }

    /** Each file with tests is named, and no other. */
    private static void checkTests(String readme) throws IOException {
        Set<String> due = new TreeSet<>();
        for (File file : TESTS.toFile().listFiles()) {
            due.add(file.getName().replace(".java", ""));
        }
        String list = readme.substring(readme.indexOf("## Tests"));
        Matcher name = Pattern.compile("`([A-Z]\\w+)`").matcher(list);
        Set<String> told = new TreeSet<>();
        while (name.find()) {
            told.add(name.group(1));
        }
        Checks.due(due, () -> told);
    }

    /** What is said to hold the tests of some promises has a method for each of them, and calls it. */
    private static void checkPromises(String readme) throws IOException {
        Matcher span = Pattern.compile("`(\\w+)` \\(promises (\\d+)\\s+to\\s+(\\d+)\\)").matcher(readme);
        int next = 1;
        while (span.find()) {
            int first = Integer.parseInt(span.group(2));
            int expected = next;
            Checks.due(expected, () -> first);
            next = Integer.parseInt(span.group(3)) + 1;
            String source = read(TESTS.resolve(span.group(1) + ".java"));
            for (int promise = first; promise < next; promise++) {
                String method = "promise" + promise + "[A-Z]\\w*\\(\\)";
                Checks.due(true, () -> Pattern.compile("static void " + method + " \\{").matcher(source).find());
                Checks.due(true, () -> Pattern.compile("^        " + method + ";$", Pattern.MULTILINE).matcher(source).find());
            }
        }
        int behind = next;
        Checks.due(51, () -> behind);
    }

    public static void main(String[] args) throws IOException {
        String readme = read(Path.of("README.md"));
        checkPrograms(readme);
        checkTable(readme);
        checkTests(readme);
        checkPromises(readme);
        Checks.end();
    }
}
