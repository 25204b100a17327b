import java.io.IOException;
import java.nio.charset.StandardCharsets;
import java.nio.file.Files;
import java.nio.file.Path;
import java.util.ArrayList;
import java.util.List;
import java.util.Set;
import java.util.concurrent.TimeUnit;
import java.util.regex.Matcher;
import java.util.regex.Pattern;
import java.util.stream.Stream;

/** README.md's example answers as is told there, and its commands work. Run in the project's folder. */
public final class ReadmeTest {
    /**
     * The one that runs this test; those that README.md says take longer than it should; and those of a test under
     * ../shared/tests, for .ci/run runs all that are there, whatever their names.
     */
    private static final Set<String> NOT_RUN_HERE = Set.of("bash .ci/run", "java -cp out RandomRuns 2000",
            "java -cp out Mutants out", "java -cp out WhistledNamesRuns",
            "javac -d out src/main/java/WhistledNames.java ../shared/tests/WhistledNamesRuns.java");
    private static final Pattern TOLD = Pattern.compile("\\s*System\\.out\\.println\\((.*)\\);\\s*// (-?\\d+): \\S.*");
    private static final long PATIENCE_SECONDS = 300;

    private static int passed = 0;
    private static int failed = 0;

    private ReadmeTest() {
    }

    public static void main(String[] args) throws IOException, InterruptedException {
        String readme = Files.readString(Path.of("README.md"));
        Path folder = Files.createTempDirectory("readme");
        checkExample(readme, folder);
        checkCommands(readme, folder);
        delete(folder);
        System.out.println("ReadmeTest: " + passed + " passed, " + failed + " failed");
        System.exit(failed == 0 ? 0 : 1);
    }

    private static void is(String what, boolean holds) {
        if (holds) {
            passed++;
        } else {
            failed++;
            System.out.println("README.md: " + what);
        }
    }

    /** What stands between ```kind and ``` in it. */
    private static List<String> blocks(String readme, String kind) {
        List<String> found = new ArrayList<>();
        Matcher block = Pattern.compile("(?ms)^```" + kind + "\n(.*?)^```$").matcher(readme);
        while (block.find()) {
            found.add(block.group(1));
        }
        return found;
    }

    // ---- the example

    private static void checkExample(String readme, Path folder) throws IOException, InterruptedException {
        List<String> examples = blocks(readme, "java");
        is("it gives one example, not " + examples.size(), examples.size() == 1);
        if (examples.isEmpty()) {
            return;
        }
        String example = examples.get(0);
        Path file = Path.of("src/example/java/Example.java");
        is("its example is not that of " + file, example.equals(Files.readString(file)));
        Path copy = folder.resolve("Example.java");
        Files.writeString(copy, example);
        Path classes = folder.resolve("classes");
        String compile = "javac -d " + classes + " src/main/java/WhistledNames.java " + copy;
        List<String> printed = new ArrayList<>();
        is("its example does not compile", run(compile, Path.of("."), printed) == 0);
        printed.clear();
        is("its example does not run", run("java -cp " + classes + " Example", Path.of("."), printed) == 0);
        compareAnswers(example, printed);
    }

    private static void compareAnswers(String example, List<String> printed) {
        int at = 0;
        for (String line : example.split("\n")) {
            if (!line.contains("println")) {
                continue;
            }
            Matcher told = TOLD.matcher(line);
            String got = at < printed.size() ? printed.get(at) : "nothing";
            at++;
            if (!told.matches()) {
                is("it tells no answer beside " + line.trim(), false);
            } else {
                is(told.group(1) + " answered " + got + ", told is " + told.group(2), got.equals(told.group(2)));
            }
        }
        is("its example prints " + printed.size() + " lines, told are " + at, printed.size() == at && at > 0);
    }

    // ---- the commands

    private static void checkCommands(String readme, Path folder) throws IOException, InterruptedException {
        Path project = folder.resolve("project");
        copy(Path.of("").toAbsolutePath(), project);
        Path shared = Path.of("../shared").toAbsolutePath().normalize();
        if (Files.exists(shared)) {
            Files.createSymbolicLink(folder.resolve("shared"), shared);
        }
        int commands = 0;
        for (String block : blocks(readme, "sh")) {
            // Each block must work without the ones ahead of it.
            delete(project.resolve("out"));
            for (String command : block.split("\n")) {
                commands++;
                if (!NOT_RUN_HERE.contains(command)) {
                    List<String> printed = new ArrayList<>();
                    boolean works = run(command, project, printed) == 0;
                    is("this command fails: " + command + "\n" + String.join("\n", printed), works);
                }
            }
        }
        is("it tells " + commands + " commands", commands > NOT_RUN_HERE.size());
    }

    private static int run(String command, Path folder, List<String> printed) throws IOException, InterruptedException {
        Path lines = Files.createTempFile("readme", ".txt");
        Process process = new ProcessBuilder("bash", "-c", command).directory(folder.toFile())
                .redirectErrorStream(true).redirectOutput(lines.toFile()).start();
        boolean hasEnded = process.waitFor(PATIENCE_SECONDS, TimeUnit.SECONDS);
        if (!hasEnded) {
            process.destroyForcibly().waitFor();
        }
        printed.addAll(Files.readAllLines(lines, StandardCharsets.ISO_8859_1));
        Files.delete(lines);
        return hasEnded ? process.exitValue() : -1;
    }

    /** As a clean checkout is: without what git keeps and what was compiled. */
    private static void copy(Path from, Path to) throws IOException {
        for (Path path : below(from)) {
            Path inside = from.relativize(path);
            if (!inside.startsWith(".git") && !inside.startsWith("out")) {
                Files.copy(path, to.resolve(inside));
            }
        }
    }

    private static void delete(Path folder) throws IOException {
        List<Path> all = below(folder);
        for (int i = all.size() - 1; i >= 0; i--) {
            Files.delete(all.get(i));
        }
    }

    private static List<Path> below(Path folder) throws IOException {
        if (!Files.exists(folder)) {
            return List.of();
        }
        try (Stream<Path> all = Files.walk(folder)) {
            return all.toList();
        }
    }
}
