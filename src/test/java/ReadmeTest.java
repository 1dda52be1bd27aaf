import java.io.IOException;
import java.nio.file.Files;
import java.nio.file.Path;
import java.util.ArrayList;
import java.util.Comparator;
import java.util.List;
import java.util.regex.Matcher;
import java.util.regex.Pattern;

/** README.md: its example prints what it says, its commands end well, its table leaves no test out. */
public final class ReadmeTest {
    private static final Path README = Path.of("README.md");
    private static final Path TESTS = Path.of("src/test/java");
    private static final Path SHARED_TESTS = Path.of("../shared/tests");
    private static final int PROMISES = 42;

    public static void main(String[] args) throws IOException, InterruptedException {
        String readme = Files.readString(README);
        Path room = Files.createTempDirectory("readme");
        try {
            commands(readme, room);
        } finally {
            clear(room);
        }
        table(readme);
        Due.end();
    }

    /** Runs the page's commands as they stand, but what they make goes into a directory that is cleared behind. */
    private static void commands(String readme, Path room) throws IOException, InterruptedException {
        Files.writeString(room.resolve("Example.java"), block(readme, "java"));
        String printed = "";
        int ran = 0;
        for (String line : readme.split("\n")) {
            if (!line.startsWith("    java") || line.contains("../shared") && !Files.exists(SHARED_TESTS)) {
                continue;
            }
            String command = line.trim().replace("/tmp/", room + "/").replace(" Example.java",
                    " " + room.resolve("Example.java"));
            Path output = room.resolve("printed");
            int end = new ProcessBuilder("sh", "-c", command).redirectErrorStream(true)
                    .redirectOutput(output.toFile()).start().waitFor();
            Due.is("ends with 0: " + line.trim(), end, 0);
            if (line.endsWith(" Example")) {
                printed = Files.readString(output);
            }
            ran++;
        }
        Due.is("at least the five commands without ../shared ran", ran >= 5, true);
        examplePrints(printed, block(readme, "text"));
    }

    private static String block(String readme, String language) {
        Matcher found = Pattern.compile("(?s)```" + language + "\n(.*?)```").matcher(readme);
        boolean isThere = found.find();
        Due.is("README.md has a block of " + language, isThere, true);
        return isThere ? found.group(1) : "";
    }

    private static void examplePrints(String got, String want) {
        List<String> gotLines = List.of(got.split("\\R"));
        List<String> wantLines = List.of(want.split("\n"));
        Due.is("lines that the example prints", gotLines.size(), wantLines.size());
        for (int i = 0; i < Math.min(gotLines.size(), wantLines.size()); i++) {
            Due.is("the example prints \"" + gotLines.get(i) + "\" where README.md has \"" + wantLines.get(i) + "\"",
                    gotLines.get(i).equals(wantLines.get(i)), true);
        }
    }

    /** Each test has a row, but for the ..EdgesTest, which share one; the rows' promises are all there are. */
    private static void table(String readme) throws IOException {
        try (var files = Files.list(TESTS)) {
            for (Path file : files.filter(f -> f.toString().endsWith("Test.java")).toList()) {
                String name = file.getFileName().toString().replace(".java", "");
                boolean hasRow = readme.contains("| " + name + " |") || name.endsWith("EdgesTest");
                Due.is("README.md has a row for " + name, hasRow, true);
            }
        }
        List<Integer> promises = new ArrayList<>();
        Matcher row = Pattern.compile("(?m)^\\| (\\w+) \\| promises (\\d+) to (\\d+)").matcher(readme);
        while (row.find()) {
            Due.is("there is " + row.group(1), Files.exists(TESTS.resolve(row.group(1) + ".java")), true);
            for (int i = Integer.parseInt(row.group(2)); i <= Integer.parseInt(row.group(3)); i++) {
                promises.add(i);
            }
        }
        Due.is("promises in the rows", promises.size(), PROMISES);
        for (int i = 0; i < promises.size(); i++) {
            Due.is("promise in the rows", promises.get(i), i + 1);
        }
    }

    private static void clear(Path room) throws IOException {
        try (var files = Files.walk(room)) {
            for (Path file : files.sorted(Comparator.reverseOrder()).toList()) {
                Files.delete(file);
            }
        }
    }
}
