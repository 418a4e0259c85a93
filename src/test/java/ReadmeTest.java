import java.io.IOException;
import java.lang.reflect.Method;
import java.lang.reflect.Modifier;
import java.nio.file.DirectoryStream;
import java.nio.file.Files;
import java.nio.file.Path;
import java.util.ArrayList;
import java.util.Collections;
import java.util.List;
import java.util.regex.Matcher;
import java.util.regex.Pattern;

/** What README.md says: its program prints what stands there, and its tables are whole. */
public final class ReadmeTest {
    private static final Path README = Path.of("README.md");
    private static final Path DOCUMENT = Path.of("..", "shared", "DOC.md");
    private static final Path TESTS = Path.of("src", "test", "java");

    public static void main(String[] arguments) throws IOException, InterruptedException {
        String readme = Files.readString(README);
        example(block(readme, "java"), block(readme, "text"));
        methods(table(readme, "For"));
        promises(table(readme, "For"));
        tests(table(readme, "Test"));
        places(readme);
        Calls.end();
    }

    /** The lines of the first block of a language. */
    private static String block(String readme, String language) {
        Matcher found = Pattern.compile("(?s)\n```" + language + "\n(.*?)```\n").matcher(readme);
        return found.find() ? found.group(1) : "no block of " + language;
    }

    /** The rows below the heading of a table, cut into their cells. */
    private static List<String[]> table(String readme, String heading) {
        List<String[]> rows = new ArrayList<>();
        boolean isInside = false;
        for (String line : readme.split("\n")) {
            if (isInside && line.startsWith("| ")) {
                rows.add(line.substring(2).split(" \\| ?"));
            }
            isInside = line.startsWith("| " + heading + " |") || isInside && line.startsWith("|");
        }
        return rows;
    }

    private static List<String> quoted(String cell) {
        List<String> names = new ArrayList<>();
        Matcher found = Pattern.compile("`(\\w+)`").matcher(cell);
        while (found.find()) {
            names.add(found.group(1));
        }
        return names;
    }

    /** Runs the program as a reader would, but on the class that is tested. */
    private static void example(String program, String due)
            throws IOException, InterruptedException {
        Path folder = Files.createTempDirectory("readme");
        Path file = folder.resolve("Example.java");
        Path output = folder.resolve("output");
        Files.writeString(file, program);
        Process java = new ProcessBuilder(
                Path.of(System.getProperty("java.home"), "bin", "java").toString(),
                "-cp", System.getProperty("java.class.path"), file.toString())
                .redirectError(ProcessBuilder.Redirect.INHERIT)
                .redirectOutput(output.toFile()).start();
        int code = java.waitFor();
        Calls.same("what the program prints", due, Files.readString(output));
        Calls.same("the program's exit code", 0, code);
        Files.delete(output);
        Files.delete(file);
        Files.delete(folder);
    }

    private static void methods(List<String[]> rows) {
        List<String> wants = new ArrayList<>();
        for (Method each : Certhold.class.getDeclaredMethods()) {
            if (Modifier.isPublic(each.getModifiers())) {
                wants.add(each.getName());
            }
        }
        List<String> got = new ArrayList<>();
        for (String[] row : rows) {
            got.addAll(quoted(row[1]));
        }
        Collections.sort(wants);
        Collections.sort(got);
        Calls.same("the methods of the table", wants, got);
    }

    /** Each row's promises are those that the document gives to its methods. */
    private static void promises(List<String[]> rows) throws IOException {
        List<String> headings = new ArrayList<>();
        for (String line : Files.readAllLines(DOCUMENT)) {
            if (line.startsWith("## Promise ")) {
                headings.add(line.substring(line.indexOf(": ") + 2));
            }
        }
        for (String[] row : rows) {
            String[] ends = row[2].replace(" |", "").split(" to |, ");
            int first = Integer.parseInt(ends[0]);
            int last = Integer.parseInt(ends[1]);
            Calls.same("the promises for " + row[0], headings.subList(first - 1, last),
                    quoted(row[1]));
        }
    }

    private static void tests(List<String[]> rows) throws IOException {
        List<String> wants = new ArrayList<>();
        try (DirectoryStream<Path> files = Files.newDirectoryStream(TESTS, "*Test.java")) {
            for (Path file : files) {
                wants.add(file.getFileName().toString().replace(".java", ""));
            }
        }
        List<String> got = new ArrayList<>();
        for (String[] row : rows) {
            got.addAll(quoted(row[0]));
        }
        Collections.sort(wants);
        Collections.sort(got);
        Calls.same("the tests of the table", wants, got);
    }

    /** The files and folders that it names are there, and its scripts can be run. */
    private static void places(String readme) {
        for (String place : new String[] {"src/main/java/Certhold.java", "../shared/DOC.md",
            "../shared/LANGUAGE.md", "../shared/tests", ".ci/run"}) {
            Calls.same(place + " is named", true, readme.contains(place));
            Calls.same(place + " is there", true, Files.exists(Path.of(place)));
        }
        Calls.same(".ci/run can be run", true, Files.isExecutable(Path.of(".ci", "run")));
        for (String helper : new String[] {"Calls", "Snapshot", "ReferenceHall"}) {
            Calls.same(helper + " is there", true,
                    readme.contains("`" + helper + "`")
                            && Files.exists(TESTS.resolve(helper + ".java")));
        }
    }
}
