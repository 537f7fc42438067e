import java.io.IOException;
import java.lang.reflect.InvocationTargetException;
import java.net.URL;
import java.net.URLClassLoader;
import java.nio.file.Files;
import java.nio.file.Path;
import java.util.ArrayList;
import java.util.Comparator;
import java.util.List;
import java.util.regex.Matcher;
import java.util.regex.Pattern;
import java.util.stream.Stream;
import javax.tools.ToolProvider;

/** README.md does what it says: its calls answer so, its commands run, its files are there. */
public final class ReadmeTest {
    private static final Path README = Path.of("README.md");
    private static final String CLASS = "src/main/java/BothSidesSheet.java";
    private static final Pattern CALL = Pattern.compile("(x\\.\\w+\\(.*\\)); *// (-?\\d+)\\b.*");
    private static final Pattern FILE = Pattern.compile("`((?:\\.\\./|src/|\\.ci/)[^`]*)`");

    private ReadmeTest() { }

    /** The lines of all blocks of a language, in their order. */
    private static List<String> lines(List<String> readme, String language) {
        List<String> found = new ArrayList<>();
        boolean within = false;
        for (String line : readme) {
            if (line.startsWith("```")) {
                within = line.equals("```" + language);
            } else if (within) {
                found.add(line);
            }
        }
        return found;
    }

    /** A class that does what the examples do, and tells each call with its answer and the due one. */
    private static String source(List<String> example) {
        StringBuilder code = new StringBuilder("import java.util.*;\npublic class Shown {\n"
                + "public static void show(List<String> calls, List<Long> answers) {\n");
        for (String line : example) {
            Matcher call = CALL.matcher(line);
            if (call.matches()) {
                code.append("calls.add(\"").append(call.group(1)).append("\");\nanswers.add((long) ")
                        .append(call.group(1)).append(");\nanswers.add(").append(call.group(2))
                        .append("L);\n");
            } else {
                Due.holds("README: an answer stands behind " + line, !line.startsWith("x."));
                code.append(line).append('\n');
            }
        }
        return code.append("}\n}\n").toString();
    }

    private static void examples(List<String> readme, Path room)
            throws IOException, ReflectiveOperationException {
        Path file = Files.writeString(room.resolve("Shown.java"), source(lines(readme, "java")));
        int compiled = ToolProvider.getSystemJavaCompiler().run(null, null, null,
                "-d", room.toString(), CLASS, file.toString());
        Due.is("README: its examples compile", compiled, 0);
        if (compiled != 0) {
            return;
        }
        List<String> calls = new ArrayList<>();
        List<Long> answers = new ArrayList<>();
        try (URLClassLoader loader = new URLClassLoader(new URL[] {room.toUri().toURL()})) {
            loader.loadClass("Shown").getMethod("show", List.class, List.class)
                    .invoke(null, calls, answers);
        } catch (InvocationTargetException e) {
            Due.holds("README: its examples throw " + e.getCause(), false);
        }
        for (int i = 0; i < calls.size() && 2 * i + 1 < answers.size(); i++) {
            Due.is("README: " + calls.get(i), answers.get(2 * i), answers.get(2 * i + 1));
        }
        Due.holds("README: it shows calls", calls.size() > 0);
    }

    private static void commands(List<String> readme, Path room)
            throws IOException, InterruptedException {
        try (Stream<Path> all = Files.walk(Path.of("src"))) {
            for (Path from : (Iterable<Path>) all::iterator) {
                Files.copy(from, room.resolve(from.toString()));
            }
        }
        List<String> block = lines(readme, "sh");
        Due.holds("README: it shows commands", block.size() > 0);
        Path told = room.resolve("told");
        int ended = new ProcessBuilder("sh", "-e", "-c", String.join("\n", block))
                .directory(room.toFile()).redirectErrorStream(true).redirectOutput(told.toFile())
                .start().waitFor();
        Due.is("README: its commands end", ended, 0);
        if (ended != 0) {
            System.out.println(Files.readString(told));
        }
    }

    private static void files(List<String> readme) throws IOException {
        String text = String.join("\n", readme);
        Matcher named = FILE.matcher(text);
        while (named.find()) {
            Due.holds("README: there is " + named.group(1), Files.exists(Path.of(named.group(1))));
        }
        try (Stream<Path> own = Files.list(Path.of("src/test/java"))) {
            for (Path test : (Iterable<Path>) own::iterator) {
                if (test.toString().endsWith("Test.java")) {
                    Due.holds("README: it names " + test, text.contains("`" + test + "`"));
                }
            }
        }
    }

    private static void remove(Path room) throws IOException {
        try (Stream<Path> all = Files.walk(room)) {
            for (Path path : (Iterable<Path>) all.sorted(Comparator.reverseOrder())::iterator) {
                Files.delete(path);
            }
        }
    }

    public static void main(String[] args)
            throws IOException, InterruptedException, ReflectiveOperationException {
        List<String> readme = Files.readAllLines(README);
        Path room = Files.createTempDirectory("readme");
        try {
            examples(readme, room);
            commands(readme, room);
            files(readme);
        } finally {
            remove(room);
        }
        Due.end("ReadmeTest");
    }
}
