import java.io.IOException;
import java.nio.file.Files;
import java.nio.file.Path;
import java.util.Arrays;
import java.util.HashMap;
import java.util.Map;
import java.util.Set;
import java.util.TreeSet;
import java.util.regex.Matcher;
import java.util.regex.Pattern;

/** Those rules of ../shared/LANGUAGE.md that can be looked up in the program's text. */
public final class LanguageTest {
    private static final Path SOURCE = Path.of("src", "main", "java", "PostByEnemy.java");
    private static final Set<String> FORBIDDEN = Set.of("package", "import", "throw", "throws", "try", "catch", "finally",
        "synchronized", "assert", "var", "volatile", "transient", "native", "strictfp", "equals", "hashCode", "toString",
        "System.out", "random", "currentTimeMillis", "nanoTime", "Thread", "getClass", "MAX_VALUE", "MIN_VALUE",
        "Object", "protected");
    private static final Set<String> LIBRARY = Set.of("String", "System", "Math", "PostByEnemy", "Duchy", "Text", "Row",
        "Thought");
    private static final int MOST_LINES = 60;
    private static final int MOST_PARAMETERS = 7;
    private static final int MOST_DEEP = 8;
    private static final int MOST_CLASSES = 12;
    private static final int MOST_FIELDS = 20;
    private static final Pattern HEAD = Pattern.compile("^( +)(?:[\\w\\[\\]]+ )+(\\w+)\\(([^)]*)\\) \\{$");

    private static int wrong = 0;

    public static void main(String[] args) throws IOException {
        String source = Files.readString(SOURCE);
        String code = withoutRemarks(source);
        checkSigns(source);
        checkWords(code);
        checkMethods(code);
        checkDepth(calledBy(code.split("\n", -1)));
        checkClasses(code.split("\n", -1));
        if (wrong != 0) {
            System.exit(1);
        }
    }

    private static void say(String text) {
        wrong++;
        System.out.println(text);
    }

    private static void checkSigns(String source) {
        for (char c : source.toCharArray()) {
            if (c != '\n' && (c < 32 || c > 126)) {
                say("a sign outside 32 to 126: " + (int) c);
            }
        }
    }

    /** Remarks become nothing, texts and signs in quotes empty; lines stay. */
    private static String withoutRemarks(String source) {
        Pattern parts = Pattern.compile("//[^\n]*|(?s:/\\*.*?\\*/)|\"[^\"\n]*\"|'[^'\n]+'");
        Matcher found = parts.matcher(source);
        StringBuilder code = new StringBuilder();
        while (found.find()) {
            String part = found.group();
            String instead = part.startsWith("\"") ? "\"\"" : part.startsWith("'") ? "0" : part.replaceAll("[^\n]", "");
            found.appendReplacement(code, instead);
        }
        return found.appendTail(code).toString();
    }

    private static void checkWords(String code) {
        if (code.contains("->") || code.contains("::") || code.contains("@")) {
            say("a lambda, a method reference or an annotation");
        }
        if (Pattern.compile("\"\"\\s*\\+|\\+\\s*\"\"").matcher(code).find()) {
            say("texts joined by +");
        }
        Matcher words = Pattern.compile("[A-Za-z_][A-Za-z_0-9]*").matcher(code);
        while (words.find()) {
            String word = words.group();
            if (FORBIDDEN.contains(word)) {
                say("a word that is ruled out: " + word);
            }
            boolean isType = Character.isUpperCase(word.charAt(0)) && !word.equals(word.toUpperCase());
            if (isType && !LIBRARY.contains(word)) {
                say("a type that is not listed: " + word);
            }
        }
        Matcher field = Pattern.compile("static (?!final )[^\n(){]*[=;]").matcher(code);
        while (field.find()) {
            say("static, but neither a constant nor a function: " + field.group());
        }
    }

    private static void checkMethods(String code) {
        String[] lines = code.split("\n", -1);
        int methods = 0;
        for (int i = 0; i < lines.length; i++) {
            Matcher found = HEAD.matcher(lines[i]);
            if (!found.matches() || lines[i].trim().startsWith("else")) {
                continue;
            }
            methods++;
            int end = endOf(lines, i, found.group(1));
            if (end - i > MOST_LINES) {
                say("a method of " + (end - i) + " lines: " + lines[i].trim());
            }
            if (found.group(3).split(",").length > MOST_PARAMETERS) {
                say("too many parameters: " + lines[i].trim());
            }
        }
        if (methods < 41) {
            say("only " + methods + " methods were looked at");
        }
    }

    private static int endOf(String[] lines, int start, String indent) {
        int end = start;
        while (!lines[end].equals(indent + "}")) {
            end++;
        }
        return end;
    }

    /** Which methods each one calls, by their names alone: those of one name in two classes are taken as one. */
    private static Map<String, Set<String>> calledBy(String[] lines) {
        Map<String, String> bodies = new HashMap<>();
        for (int i = 0; i < lines.length; i++) {
            Matcher found = HEAD.matcher(lines[i]);
            if (found.matches() && !lines[i].trim().startsWith("else")) {
                String body = String.join("\n", Arrays.copyOfRange(lines, i + 1, endOf(lines, i, found.group(1))));
                bodies.merge(found.group(2), body, String::concat);
            }
        }
        Map<String, Set<String>> called = new HashMap<>();
        for (Map.Entry<String, String> method : bodies.entrySet()) {
            Set<String> names = new TreeSet<>();
            // "(?<!Math[.])": max and its like are the library's.
            Matcher call = Pattern.compile("(?<!Math[.])\\b(\\w+)\\(").matcher(method.getValue());
            while (call.find()) {
                if (bodies.containsKey(call.group(1))) {
                    names.add(call.group(1));
                }
            }
            called.put(method.getKey(), names);
        }
        return called;
    }

    private static void checkDepth(Map<String, Set<String>> called) {
        int most = 0;
        for (String name : called.keySet()) {
            most = Math.max(most, depthOf(name, called, new TreeSet<>()));
        }
        if (most > MOST_DEEP) {
            say("calls go " + most + " deep");
        }
        if (most < 3) {
            say("the calls were not found: only " + most + " deep");
        }
    }

    private static int depthOf(String name, Map<String, Set<String>> called, Set<String> open) {
        if (!open.add(name)) {
            say("a method that comes to call itself: " + name);
            return 0;
        }
        int most = 0;
        for (String next : called.get(name)) {
            most = Math.max(most, depthOf(next, called, open));
        }
        open.remove(name);
        return most + 1;
    }

    private static void checkClasses(String[] lines) {
        Pattern head = Pattern.compile("^( *)(?:\\w+ )*(?:class|record|enum|interface) (\\w+).*\\{$");
        Map<String, Integer> fields = new HashMap<>();
        String inside = "";
        String indent = "";
        for (String line : lines) {
            Matcher found = head.matcher(line);
            if (found.matches()) {
                indent = found.group(1) + "    ";
                inside = found.group(2);
                fields.put(inside, 0);
            }
            if (line.matches("^" + indent + "(?:private )?(?:final )?[\\w\\[\\]]+ \\w+(?: = .*)?;$")) {
                fields.merge(inside, 1, Integer::sum);
            }
        }
        if (fields.size() > MOST_CLASSES) {
            say(fields.size() + " classes");
        }
        for (Map.Entry<String, Integer> some : fields.entrySet()) {
            if (some.getValue() > MOST_FIELDS || some.getValue() == 0) {
                say(some.getKey() + " has " + some.getValue() + " fields");
            }
        }
    }
}
