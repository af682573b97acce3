import java.io.IOException;
import java.lang.reflect.Method;
import java.lang.reflect.Modifier;
import java.nio.charset.StandardCharsets;
import java.nio.file.Files;
import java.nio.file.Path;
import java.util.ArrayList;
import java.util.Comparator;
import java.util.List;
import java.util.TreeSet;
import java.util.stream.Stream;

/**
 * README.md: what it says of the use of the class and of the running of its tests is done as it
 * stands there, in a directory that looks like the project. It is run in the project's directory.
 */
public final class ReadmeTest {
    private static final String FENCE = "```";
    private static final String SCRIPT = ".ci/run";

    private record Outcome(int exit, String output) {
    }

    public static void main(String[] args) throws Exception {
        Check.promise("README.md");
        List<String> lines = Files.readAllLines(Path.of("README.md"));
        callsAreNamed(lines);
        testsAreNamed(lines);
        Path place = Files.createTempDirectory("readme");
        try {
            Path project = layOut(place);
            example(lines, project);
            commandsForTests(lines, project);
        } finally {
            remove(place);
        }
        Check.end();
    }

    private static List<String> blocks(List<String> lines, String language) {
        List<String> all = new ArrayList<>();
        StringBuilder block = null;
        for (String line : lines) {
            if (block == null) {
                block = line.equals(FENCE + language) ? new StringBuilder() : null;
            } else if (line.equals(FENCE)) {
                all.add(block.toString());
                block = null;
            } else {
                block.append(line).append('\n');
            }
        }
        return all;
    }

    private static void callsAreNamed(List<String> lines) {
        String text = String.join("\n", lines);
        for (Method each : Zfsmill.class.getDeclaredMethods()) {
            if (Modifier.isPublic(each.getModifiers())) {
                Check.due(each.getName(),
                        () -> text.contains("`" + each.getName() + "`") ? each.getName() : "none");
            }
        }
    }

    private static void testsAreNamed(List<String> lines) throws IOException {
        TreeSet<String> want = new TreeSet<>();
        try (Stream<Path> files = Files.list(Path.of("src/test/java"))) {
            files.map(file -> file.getFileName().toString())
                    .filter(name -> name.endsWith("Test.java"))
                    .forEach(name -> want.add(name.substring(0, name.length() - 5)));
        }
        TreeSet<String> named = new TreeSet<>();
        for (String line : lines) {
            if (line.startsWith("| `") && line.contains("Test` |")) {
                named.add(line.substring(3, line.indexOf("` |")));
            }
        }
        Check.due(want, () -> named);
    }

    /** What is compiled goes to the copy, so that the project stays as it was checked out. */
    private static Path layOut(Path place) throws IOException {
        Path project = Files.createDirectory(place.resolve("main"));
        Files.createSymbolicLink(project.resolve("src"), Path.of("src").toRealPath());
        Files.createSymbolicLink(place.resolve("shared"), Path.of("../shared").toRealPath());
        return project;
    }

    private static Outcome run(String commands, Path project) {
        try {
            Process process = new ProcessBuilder("sh", "-e", "-c", commands)
                    .directory(project.toFile()).redirectErrorStream(true).start();
            byte[] output = process.getInputStream().readAllBytes();
            return new Outcome(process.waitFor(), new String(output, StandardCharsets.UTF_8));
        } catch (IOException | InterruptedException e) {
            throw new IllegalStateException(e);
        }
    }

    private static void example(List<String> lines, Path project) throws IOException {
        List<String> programs = blocks(lines, "java");
        List<String> outputs = blocks(lines, "text");
        Check.due(1, programs::size);
        Check.due(1, outputs::size);
        Files.writeString(project.resolve("Example.java"), programs.get(0));
        String commands = blocks(lines, "sh").get(0);
        Check.due(true, () -> commands.contains("Example"));
        Check.due(new Outcome(0, outputs.get(0)), () -> run(commands, project));
    }

    /** The run of all tests runs this one too; it is enough that it can be called as it is told. */
    private static void commandsForTests(List<String> lines, Path project) {
        List<String> all = blocks(lines, "sh");
        Check.due(4, all::size);
        Check.due("sh " + SCRIPT + "\n", () -> all.get(1));
        Check.due(true, () -> Files.isReadable(Path.of(SCRIPT)));
        for (String commands : all.subList(2, all.size())) {
            Outcome outcome = run(commands, project);
            Check.due(0, outcome::exit);
            Check.due(false, () -> outcome.output().isEmpty());
        }
    }

    private static void remove(Path place) throws IOException {
        List<Path> all;
        try (Stream<Path> found = Files.walk(place)) {
            all = found.sorted(Comparator.reverseOrder()).toList();
        }
        for (Path each : all) {
            Files.delete(each);
        }
    }
}
