import java.io.IOException;
import java.nio.charset.StandardCharsets;
import java.nio.file.Files;
import java.nio.file.Path;
import java.util.ArrayList;
import java.util.Collections;
import java.util.List;
import java.util.Set;
import java.util.TreeSet;
import java.util.regex.Matcher;
import java.util.regex.Pattern;
import java.util.stream.Stream;

/**
 * What README.md says of how to use the class and how to run its tests holds as it stands there; run
 * from the project's root. Its commands are run in a directory of their own, beside the example.
 */
final class ReadmeTest {
    private static final String RUN_ALL = ".ci/run";
    private static final String RUN_EXAMPLE = "java -cp out Example";

    private final String text;
    private final Path directory;

    public static void main(String[] args) throws IOException, InterruptedException {
        Path directory = Files.createTempDirectory("readme");
        try {
            new ReadmeTest(Files.readString(Path.of("README.md")), directory).run();
        } finally {
            delete(directory);
        }
        Check.end();
    }

    private ReadmeTest(String text, Path directory) {
        this.text = text;
        this.directory = directory;
    }

    private void run() throws IOException, InterruptedException {
        List<String> examples = blocks("java");
        Check.equal("examples", examples.size(), 1);
        Files.writeString(directory.resolve("Example.java"), examples.get(0));
        Files.createSymbolicLink(directory.resolve("src"), Path.of("src").toAbsolutePath());
        commandsRun(duePrints(examples.get(0)));
        tableNamesEachTest();
        eachClassInsideIsNamed();
    }

    private List<String> blocks(String kind) {
        List<String> all = new ArrayList<>();
        Matcher block = Pattern.compile("(?s)```" + kind + "\n(.*?)```").matcher(text);
        while (block.find()) {
            all.add(block.group(1));
        }
        return all;
    }

    /** A line that prints is followed by a comment that begins with what it prints. */
    private static List<String> duePrints(String example) {
        Pattern told = Pattern.compile("println\\(.*\\);\\s*// (-?\\w+):.*");
        List<String> due = new ArrayList<>();
        for (String line : example.split("\n")) {
            if (line.contains("println")) {
                Matcher matcher = told.matcher(line);
                boolean isTold = matcher.find();
                Check.isTrue("the example tells what is printed by " + line.strip(), isTold);
                due.add(isTold ? matcher.group(1) : "");
            }
        }
        return due;
    }

    private void commandsRun(List<String> duePrints) throws IOException, InterruptedException {
        List<String> commands = new ArrayList<>();
        for (String block : blocks("sh")) {
            commands.addAll(List.of(block.split("\n")));
        }
        Check.isTrue("a command is named that runs the tests", commands.remove(RUN_ALL));
        Check.isTrue(RUN_ALL + " can be run", Files.isExecutable(Path.of(RUN_ALL)));
        Check.isTrue("a command is named that runs the example", commands.contains(RUN_EXAMPLE));
        for (String command : commands) {
            List<String> printed = printedBy(command);
            if (command.equals(RUN_EXAMPLE)) {
                Check.isTrue("the example prints " + printed + ", it tells " + duePrints, printed.equals(duePrints));
            }
        }
    }

    private List<String> printedBy(String command) throws IOException, InterruptedException {
        Process process = new ProcessBuilder("sh", "-c", command)
                .directory(directory.toFile())
                .redirectErrorStream(true)
                .start();
        process.getOutputStream().close();
        String printed = new String(process.getInputStream().readAllBytes(), StandardCharsets.UTF_8);
        Check.equal(command + " ends with (" + printed.strip() + ")", process.waitFor(), 0);
        return printed.lines().toList();
    }

    private void tableNamesEachTest() throws IOException {
        Set<String> named = new TreeSet<>();
        Matcher row = Pattern.compile("(?m)^\\| `(\\w+)` \\|").matcher(text);
        while (row.find()) {
            named.add(row.group(1) + ".java");
        }
        Set<String> there = new TreeSet<>();
        try (Stream<Path> files = Files.list(Path.of("src/test/java"))) {
            files.map(file -> file.getFileName().toString())
                    .filter(name -> name.endsWith("Test.java"))
                    .forEach(there::add);
        }
        Check.isTrue("the table names " + named + ", there are " + there, named.equals(there));
    }

    private void eachClassInsideIsNamed() {
        for (Class<?> inside : Glosspair.class.getDeclaredClasses()) {
            String name = inside.getSimpleName();
            Check.isTrue(name + " is named", text.contains("`" + name + "`"));
        }
    }

    /** A link is taken away, not what it leads to. */
    private static void delete(Path directory) throws IOException {
        List<Path> all = new ArrayList<>();
        try (Stream<Path> paths = Files.walk(directory)) {
            paths.forEach(all::add);
        }
        Collections.reverse(all);
        for (Path path : all) {
            Files.delete(path);
        }
    }
}
