import java.io.IOException;
import java.io.StringWriter;
import java.net.URL;
import java.net.URLClassLoader;
import java.nio.file.Files;
import java.nio.file.Path;
import java.util.ArrayList;
import java.util.List;
import java.util.Set;
import java.util.TreeSet;
import javax.tools.JavaCompiler;
import javax.tools.ToolProvider;

/**
 * Breaks one sentence after the other in the program, as src/test/mutants.txt tells, and looks whether the test of
 * that sentence fails. It takes its time, so .ci/run leaves it out. Run in the project's folder, with the folder of
 * the compiled tests: java -cp out Mutants out
 */
public final class Mutants {
    private static final Path PROGRAM = Path.of("src/main/java/WhistledNames.java");
    private static final long PATIENCE = 20000;

    private record Mutant(String section, String sentence, String old, String changed) {
    }

    private Mutants() {
    }

    public static void main(String[] args) throws Exception {
        String source = Files.readString(PROGRAM);
        URL tests = Path.of(args[0]).toUri().toURL();
        int noticed = 0;
        int unnoticed = 0;
        for (Mutant mutant : mutants()) {
            Path folder = Files.createTempDirectory("mutant");
            String fate = fate(mutant, source, folder, tests);
            if (fate.isEmpty()) {
                noticed++;
            } else {
                unnoticed++;
                System.out.println(mutant.section + " | " + mutant.sentence + "\n  " + fate + "\n  " + mutant.changed);
            }
        }
        System.out.println("Mutants: " + noticed + " noticed by the test of their sentence, " + unnoticed + " not");
        System.exit(unnoticed == 0 ? 0 : 1);
    }

    private static List<Mutant> mutants() throws IOException {
        List<Mutant> mutants = new ArrayList<>();
        for (String part : Files.readString(Path.of("src/test/mutants.txt")).split("(?m)^== ")) {
            String[] lines = part.split("\n");
            String[] title = lines[0].split(" \\| ", 2);
            if (title.length == 2 && !part.startsWith("#")) {
                mutants.add(new Mutant(title[0], title[1], after(lines, "--"), after(lines, "++")));
            }
        }
        return mutants;
    }

    private static String after(String[] lines, String mark) {
        List<String> found = new ArrayList<>();
        for (String line : lines) {
            if (line.startsWith(mark)) {
                found.add(line.length() > 3 ? line.substring(3) : "");
            }
        }
        return String.join("\n", found);
    }

    /** Empty, if the test of the sentence fails. */
    private static String fate(Mutant mutant, String source, Path folder, URL tests) throws Exception {
        int at = source.indexOf(mutant.old);
        if (mutant.old.isEmpty() || at < 0 || source.indexOf(mutant.old, at + 1) >= 0) {
            return "what it changes stands not once in the program: " + mutant.old;
        }
        Path changed = folder.resolve("WhistledNames.java");
        Files.writeString(changed, source.replace(mutant.old, mutant.changed));
        JavaCompiler compiler = ToolProvider.getSystemJavaCompiler();
        if (compiler.run(null, null, null, "-nowarn", "-d", folder.toString(), changed.toString()) != 0) {
            return "it does not compile";
        }
        Set<String> failed = failed(folder, tests);
        String due = mutant.section + ": " + mutant.sentence;
        for (String sentence : failed) {
            if (sentence.startsWith(due)) {
                return "";
            }
        }
        return failed.isEmpty() ? "no test fails" : "other tests fail: " + failed;
    }

    private static Set<String> failed(Path folder, URL tests) throws Exception {
        // The changed program stands ahead of the one among the tests.
        URL[] path = {folder.toUri().toURL(), tests};
        ClassLoader loader = new URLClassLoader(path, ClassLoader.getPlatformClassLoader());
        Class<?> sentences = loader.loadClass("SentenceTests");
        StringWriter thrown = new StringWriter();
        Thread run = new Thread(() -> {
            try {
                sentences.getMethod("runQuietly").invoke(null);
            } catch (ReflectiveOperationException e) {
                thrown.write("" + e.getCause());
            }
        });
        run.setDaemon(true);
        run.start();
        run.join(PATIENCE);
        Set<String> failed = new TreeSet<>();
        Object found = sentences.getMethod("failedSentences").invoke(null);
        for (Object sentence : (Set<?>) found) {
            failed.add((String) sentence);
        }
        if (run.isAlive() || !thrown.toString().isEmpty()) {
            failed.add("it throws " + thrown + " or has no end");
        }
        return failed;
    }
}
