import java.io.IOException;
import java.io.OutputStream;
import java.io.PrintStream;
import java.net.URL;
import java.net.URLClassLoader;
import java.nio.file.Files;
import java.nio.file.Path;
import java.util.ArrayList;
import java.util.Collection;
import java.util.Comparator;
import java.util.LinkedHashMap;
import java.util.List;
import java.util.Map;
import java.util.Set;
import java.util.TreeSet;
import java.util.stream.Stream;
import javax.tools.JavaCompiler;
import javax.tools.ToolProvider;

/**
 * Tests the tests: breaks the program in each way that mutants.txt tells, and looks whether the test of the sentence
 * that is broken finds it. A way is told by lines: "== " and the sentence ("==" alone: the same one again); "@ " and a
 * text behind which to look, if what is to be changed stands more than once; "- " and what stands there; "+ " and what
 * is to stand there. Also tells sentences that no mutant breaks, and those whose words do not stand in the document.
 */
public final class Mutants {
    private static final String[] TESTS = {"EdgesOfTermsTest", "EdgesOfTextTest", "EdgesOfStateTest",
        "EdgesOfActionsTest", "EdgesOfAnswersTest", "EdgesOfScriptsTest"};
    private static final Path PROGRAM = Path.of("src/main/java/ButtonGuests.java");
    private static final Path WAYS = Path.of("src/mutants/mutants.txt");
    private static final long MOST_MILLISECONDS = 60_000;

    private record Mutant(String sentence, int line, String source) {
    }

    private static final List<String> FAULTS = new ArrayList<>();
    /** By the sentences: the tests that hold them. */
    private static final Map<String, String> TEST_OF = new LinkedHashMap<>();

    public static void main(String[] args) throws Exception {
        Path out = Files.createTempDirectory("mutants");
        Path tests = out.resolve("tests");
        compileTests(tests);
        for (String test : TESTS) {
            Set<String> sentences = new TreeSet<>();
            for (String broken : run(tests, tests, test, sentences)) {
                FAULTS.add("broken without a mutant: " + broken);
            }
            sentences.forEach(sentence -> TEST_OF.put(sentence, test));
        }
        quotes();
        List<Mutant> mutants = read();
        for (Mutant mutant : mutants) {
            one(mutant, out.resolve("mutant"), tests);
        }
        Set<String> left = new TreeSet<>(TEST_OF.keySet());
        mutants.forEach(mutant -> left.remove(mutant.sentence()));
        left.forEach(sentence -> FAULTS.add("no mutant: " + sentence));
        FAULTS.forEach(System.out::println);
        System.out.println(mutants.size() + " mutants of " + TEST_OF.size() + " sentences, " + FAULTS.size() + " faults");
        delete(out);
        System.exit(FAULTS.isEmpty() ? 0 : 1);
    }

    private static void delete(Path directory) throws IOException {
        try (Stream<Path> all = Files.walk(directory)) {
            all.sorted(Comparator.reverseOrder()).forEach(file -> file.toFile().delete());
        }
    }

    private static void compileTests(Path tests) throws IOException {
        List<String> arguments = new ArrayList<>(List.of("-d", tests.toString(), PROGRAM.toString()));
        try (Stream<Path> all = Files.list(Path.of("src/test/java"))) {
            all.forEach(file -> arguments.add(file.toString()));
        }
        if (!compile(arguments)) {
            throw new IOException("the tests do not compile");
        }
    }

    private static boolean compile(List<String> arguments) {
        JavaCompiler compiler = ToolProvider.getSystemJavaCompiler();
        return compiler.run(null, null, null, arguments.toArray(new String[0])) == 0;
    }

    private static void quotes() throws IOException {
        String document = Files.readString(Path.of("../shared/DOC.md")).replaceAll("\\s+", " ");
        for (String sentence : TEST_OF.keySet()) {
            if (!document.contains(sentence.substring(sentence.indexOf(": ") + 2))) {
                FAULTS.add("not in the document: " + sentence);
            }
        }
    }

    private static List<Mutant> read() throws IOException {
        String program = Files.readString(PROGRAM);
        List<String> lines = new ArrayList<>(Files.readAllLines(WAYS));
        lines.add("==");
        List<Mutant> all = new ArrayList<>();
        String sentence = null;
        String source = program;
        String old = "";
        int from = 0;
        int begun = 0;
        for (int i = 0; i < lines.size(); i++) {
            String line = lines.get(i);
            String words = line.length() > 2 ? line.substring(line.indexOf(' ') + 1) : "";
            if (line.startsWith("==")) {
                if (!source.equals(program)) {
                    all.add(new Mutant(sentence, begun, source));
                }
                sentence = words.isEmpty() ? sentence : words;
                source = program;
                from = 0;
                begun = i + 1;
                if (!TEST_OF.containsKey(sentence)) {
                    FAULTS.add("line " + begun + ": no test of this sentence: " + sentence);
                }
            } else if (line.startsWith("@")) {
                from = Math.max(0, source.indexOf(words));
            } else if (line.startsWith("-")) {
                old = words;
            } else {
                int at = source.indexOf(old, from);
                if (at < 0 || from == 0 && source.indexOf(old, at + 1) >= 0) {
                    FAULTS.add("line " + (i + 1) + ": not in the program, or more than once: " + old);
                } else {
                    source = source.substring(0, at) + words + source.substring(at + old.length());
                }
            }
        }
        return all;
    }

    private static void one(Mutant mutant, Path out, Path tests) throws Exception {
        Files.createDirectories(out);
        Path file = out.resolve("ButtonGuests.java");
        Files.writeString(file, mutant.source());
        if (!compile(List.of("-d", out.toString(), file.toString()))) {
            FAULTS.add("line " + mutant.line() + ": does not compile");
            return;
        }
        String test = TEST_OF.get(mutant.sentence());
        if (test != null && !run(out, tests, test, new TreeSet<>()).contains(mutant.sentence())) {
            FAULTS.add("line " + mutant.line() + ": not found by the test of its sentence: " + mutant.sentence());
        }
    }

    /** Runs a test with the program of a directory; what it prints is not shown. Returns the broken sentences. */
    private static Set<String> run(Path program, Path tests, String test, Set<String> sentences) throws Exception {
        URL[] places = {program.toUri().toURL(), tests.toUri().toURL()};
        PrintStream shown = System.out;
        System.setOut(new PrintStream(OutputStream.nullOutputStream()));
        try (URLClassLoader loader = new URLClassLoader(places, ClassLoader.getPlatformClassLoader())) {
            Thread thread = new Thread(() -> all(loader, test));
            thread.setDaemon(true);
            thread.start();
            thread.join(MOST_MILLISECONDS);
            sentences.addAll(held(loader, "SENTENCES"));
            return new TreeSet<>(held(loader, "BROKEN"));
        } finally {
            System.setOut(shown);
        }
    }

    private static void all(ClassLoader loader, String test) {
        try {
            var method = loader.loadClass(test).getDeclaredMethod("all");
            method.setAccessible(true);
            method.invoke(null);
        } catch (ReflectiveOperationException e) {
            throw new IllegalStateException(e);
        }
    }

    @SuppressWarnings("unchecked")
    private static Collection<String> held(ClassLoader loader, String name) throws ReflectiveOperationException {
        var field = loader.loadClass("Check").getDeclaredField(name);
        field.setAccessible(true);
        return (Collection<String>) field.get(null);
    }
}
