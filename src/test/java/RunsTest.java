import java.io.IOException;
import java.lang.reflect.InvocationTargetException;
import java.lang.reflect.Method;
import java.nio.charset.StandardCharsets;
import java.nio.file.Files;
import java.nio.file.Path;
import java.util.ArrayList;
import java.util.List;
import java.util.Set;
import java.util.TreeSet;
import java.util.stream.Collectors;
import java.util.stream.Stream;

/**
 * Runs of calls worked out by hand, told in src/test/runs/*.txt. A line "== NUMBER TITLE" makes a new object for the
 * promise of that number, "call(1, 2) = 3" is a call and its answer, "letters TEXT = 3" tells letters (the answer is the
 * last one's), "tell TEXT = 3" tells letters and then calls duchy(); what stands behind a '#' is a remark.
 */
public final class RunsTest {
    private static final Path FOLDER = Path.of("src", "test", "runs");
    private static final int PROMISES = 41;

    private static int wrong = 0;
    private static final Set<Integer> told = new TreeSet<>();

    private PostByEnemy post = new PostByEnemy();
    private String title = "";

    public static void main(String[] args) throws Exception {
        for (Path file : files()) {
            new RunsTest().run(file);
        }
        for (int promise = 1; promise <= PROMISES; promise++) {
            if (!told.contains(promise)) {
                say("no run is told for promise " + promise);
            }
        }
        if (wrong != 0) {
            System.exit(1);
        }
    }

    private static List<Path> files() throws IOException {
        try (Stream<Path> all = Files.list(FOLDER)) {
            return all.filter(f -> f.toString().endsWith(".txt")).sorted().collect(Collectors.toList());
        }
    }

    private static void say(String text) {
        wrong++;
        System.out.println(text);
    }

    private void run(Path file) throws Exception {
        int number = 0;
        for (String whole : Files.readAllLines(file, StandardCharsets.UTF_8)) {
            number++;
            int remark = whole.indexOf('#');
            String line = (remark < 0 ? whole : whole.substring(0, remark)).trim();
            if (line.startsWith("==")) {
                title = line.substring(2).trim();
                told.add(Integer.parseInt(title.split(" ")[0]));
                post = new PostByEnemy();
            } else if (!line.isEmpty()) {
                check(file.getFileName() + ":" + number, line);
            }
        }
    }

    private void check(String where, String line) throws Exception {
        int sign = line.lastIndexOf('=');
        String call = line.substring(0, sign).trim();
        long want = Long.parseLong(line.substring(sign + 1).trim());
        long got = 0;
        try {
            got = answer(call);
        } catch (InvocationTargetException thrown) {
            say(where + " (" + title + "): " + call + " threw " + thrown.getCause());
            return;
        }
        if (got != want) {
            say(where + " (" + title + "): " + call + " answered " + got + ", due is " + want);
        }
    }

    private long answer(String call) throws Exception {
        if (call.startsWith("letters ")) {
            return letters(call.substring(8));
        }
        if (call.startsWith("tell ")) {
            letters(call.substring(5));
            return post.duchy();
        }
        int open = call.indexOf('(');
        String inside = call.substring(open + 1, call.indexOf(')')).trim();
        List<Integer> values = new ArrayList<>();
        for (String value : inside.isEmpty() ? new String[0] : inside.split(",")) {
            values.add(Integer.valueOf(value.trim()));
        }
        Class<?>[] types = values.stream().map(v -> int.class).toArray(Class<?>[]::new);
        Method method = PostByEnemy.class.getMethod(call.substring(0, open), types);
        return ((Number) method.invoke(post, values.toArray())).longValue();
    }

    private int letters(String text) {
        int many = 0;
        for (char c : text.toCharArray()) {
            many = post.letter(c);
        }
        return many;
    }
}
