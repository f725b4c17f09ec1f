import java.io.IOException;
import java.nio.file.Files;
import java.nio.file.Path;
import java.util.ArrayList;
import java.util.Comparator;
import java.util.List;
import java.util.regex.Matcher;
import java.util.regex.Pattern;
import java.util.stream.Stream;

/** The example and the commands that README.md gives, tried as they stand there, in a copy of the project. */
public final class ReadmeTest {
    private static final Due DUE = new Due("ReadmeTest");
    private static final String ALL_TESTS = ".ci/run\n";

    public static void main(String[] args) throws Exception {
        String readme = Files.readString(Path.of("README.md"));
        Path room = Files.createTempDirectory("readme");
        try {
            Path project = copyOfProject(room);
            tryAll(readme, project);
        } finally {
            remove(room);
        }
        everyTestIsTold(readme);
        DUE.end();
    }

    private static List<String> blocks(String readme, String language) {
        List<String> found = new ArrayList<>();
        Matcher block = Pattern.compile("(?s)```" + language + "\\n(.*?)```").matcher(readme);
        while (block.find()) {
            found.add(block.group(1));
        }
        return found;
    }

    private static Path copyOfProject(Path room) throws IOException {
        Path project = Files.createDirectory(room.resolve("main"));
        Files.createSymbolicLink(room.resolve("shared"), Path.of("../shared").toRealPath());
        try (Stream<Path> files = Files.walk(Path.of("src"))) {
            for (Path file : (Iterable<Path>) files::iterator) {
                Files.copy(file, project.resolve(file.toString()));
            }
        }
        return project;
    }

    private static void tryAll(String readme, Path project) throws Exception {
        List<String> examples = blocks(readme, "java");
        DUE.is("examples", examples.size(), 1);
        Files.writeString(project.resolve("Example.java"), examples.get(0));
        List<String> commands = blocks(readme, "sh");
        DUE.is("blocks of commands", commands.size(), 4);
        int examplesRun = 0;
        for (String block : commands) {
            // That one is what runs this test.
            if (block.equals(ALL_TESTS)) {
                DUE.holds(block + " can be run", Files.isExecutable(Path.of(block.trim())));
                continue;
            }
            String printed = run(block, project);
            if (block.contains("java -cp out Example")) {
                examplesRun++;
                DUE.holds("Example printed\n" + printed, printed.equals(promised(examples.get(0))));
            }
        }
        DUE.is("times that the example was run", examplesRun, 1);
        DUE.holds("a command for all tests", commands.contains(ALL_TESTS));
    }

    /** The numbers that the comments of the example promise, a line each. */
    private static String promised(String example) {
        StringBuilder lines = new StringBuilder();
        for (String line : example.split("\n")) {
            if (line.contains("println")) {
                Matcher promise = Pattern.compile("// (-?\\d+)(:|$)").matcher(line);
                DUE.holds("a promise in " + line, promise.find());
                lines.append(promise.group(1)).append(System.lineSeparator());
            }
        }
        return lines.toString();
    }

    private static String run(String commands, Path directory) throws Exception {
        ProcessBuilder shell = new ProcessBuilder("sh", "-e", "-c", commands).directory(directory.toFile());
        Process process = shell.redirectError(ProcessBuilder.Redirect.INHERIT).start();
        String printed = new String(process.getInputStream().readAllBytes());
        int exit = process.waitFor();
        DUE.is("exit code of\n" + commands + "which printed\n" + printed, exit, 0);
        return printed;
    }

    private static void everyTestIsTold(String readme) throws IOException {
        try (Stream<Path> files = Files.list(Path.of("src/test/java"))) {
            for (Path file : (Iterable<Path>) files::iterator) {
                String name = file.getFileName().toString().replace(".java", "");
                DUE.holds("README.md tells of " + name, !name.endsWith("Test") || readme.contains("`" + name + "`"));
            }
        }
    }

    private static void remove(Path room) throws IOException {
        try (Stream<Path> files = Files.walk(room)) {
            for (Path file : (Iterable<Path>) files.sorted(Comparator.reverseOrder())::iterator) {
                Files.delete(file);
            }
        }
    }
}
