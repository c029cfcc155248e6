import java.io.IOException;
import java.net.URL;
import java.net.URLClassLoader;
import java.nio.file.Files;
import java.nio.file.Path;
import java.util.ArrayList;
import java.util.Comparator;
import java.util.List;
import java.util.regex.Matcher;
import java.util.regex.Pattern;
import java.util.stream.Stream;

/**
 * README.md's java blocks, run as they stand there, one behind the other: "CALL;  // NUMBER" or "// NUMBER: WORDS" tells
 * the answer of the call. A block that begins with "static" is a function that the others use.
 */
public final class ReadmeTest {
    private static final Path README = Path.of("README.md");
    private static final Pattern BLOCK = Pattern.compile("```java\n(.*?)```", Pattern.DOTALL);
    private static final Pattern ANSWERED = Pattern.compile("^(\\w.*?);\\s+// (-?\\d+L?)(?::.*)?$");
    private static final int LEAST_ANSWERS = 40;

    private final StringBuilder functions = new StringBuilder();
    private final StringBuilder body = new StringBuilder();
    private int answers = 0;

    public static void main(String[] args) throws Exception {
        String readme = Files.readString(README);
        ReadmeTest test = new ReadmeTest();
        Matcher blocks = BLOCK.matcher(readme);
        while (blocks.find()) {
            test.add(blocks.group(1));
        }
        boolean isAsDue = test.runs();
        if (test.answers < LEAST_ANSWERS) {
            System.out.println("README.md tells only " + test.answers + " answers");
            isAsDue = false;
        }
        if (!isAsDue || !namesItsPlaces(readme)) {
            System.exit(1);
        }
    }

    private void add(String block) {
        if (block.startsWith("static ")) {
            functions.append(block);
            return;
        }
        for (String line : block.split("\n")) {
            Matcher answered = ANSWERED.matcher(line);
            if (!answered.matches()) {
                body.append(line).append('\n');
                continue;
            }
            answers++;
            String call = answered.group(1);
            String quoted = call.replace("\\", "\\\\").replace("\"", "\\\"");
            body.append("due(\"").append(quoted).append("\", ").append(call).append(", ").append(answered.group(2))
                .append(");\n");
        }
    }

    private String program() {
        return "public final class ReadmeProgram {\n"
            + "private static int wrong = 0;\n"
            + "private static void due(String call, long got, long want) {\n"
            + "if (got != want) { wrong++; System.out.println(\"README.md: \" + call + \" answered \" + got"
            + " + \", and not \" + want); }\n}\n"
            + functions
            + "public static int run() {\n" + body + "return wrong;\n}\n}\n";
    }

    private boolean runs() throws Exception {
        Path folder = Files.createTempDirectory("readme");
        try {
            Path source = Files.writeString(folder.resolve("ReadmeProgram.java"), program());
            Process compiler = new ProcessBuilder("javac", "-cp", System.getProperty("java.class.path"), "-d",
                folder.toString(), source.toString()).inheritIO().start();
            if (compiler.waitFor() != 0) {
                System.out.println("README.md's blocks do not compile");
                return false;
            }
            try (URLClassLoader loader = new URLClassLoader(new URL[] {folder.toUri().toURL()})) {
                return loader.loadClass("ReadmeProgram").getMethod("run").invoke(null).equals(0);
            }
        } finally {
            remove(folder);
        }
    }

    private static void remove(Path folder) throws IOException {
        List<Path> all = new ArrayList<>();
        try (Stream<Path> found = Files.walk(folder)) {
            found.sorted(Comparator.reverseOrder()).forEach(all::add);
        }
        for (Path path : all) {
            Files.delete(path);
        }
    }

    /** What README.md names in this tree is there. */
    private static boolean namesItsPlaces(String readme) {
        boolean areThere = true;
        Matcher named = Pattern.compile("`(src/[\\w/]+\\.java|NOTES\\.md|\\.\\./shared/\\w+\\.md)`").matcher(readme);
        while (named.find()) {
            if (!Files.exists(Path.of(named.group(1)))) {
                System.out.println("README.md names " + named.group(1) + ", which is not there");
                areThere = false;
            }
        }
        boolean isRunnable = readme.contains("    .ci/run\n") && Files.isExecutable(Path.of(".ci", "run"));
        if (!isRunnable) {
            System.out.println("README.md does not tell .ci/run, or it can't be run");
        }
        return areThere && isRunnable;
    }
}
