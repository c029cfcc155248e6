import java.io.IOException;
import java.nio.file.Files;
import java.nio.file.Path;
import java.util.Set;
import java.util.regex.Matcher;
import java.util.regex.Pattern;

/** Those rules of ../shared/LANGUAGE.md that can be looked up in the program's text. */
public final class LanguageTest {
    private static final Path SOURCE = Path.of("src", "main", "java", "PostByEnemy.java");
    private static final Set<String> FORBIDDEN = Set.of("package", "import", "throw", "throws", "try", "catch", "finally",
        "synchronized", "assert", "var", "volatile", "transient", "native", "strictfp", "equals", "hashCode", "toString",
        "System.out", "random", "currentTimeMillis", "nanoTime", "Thread", "getClass", "MAX_VALUE", "MIN_VALUE",
        "Object", "protected");
    private static final Set<String> LIBRARY = Set.of("String", "System", "Math", "PostByEnemy", "Duchy", "Text", "Row",
        "Thought");
    private static final int MOST_LINES = 60;
    private static final int MOST_PARAMETERS = 7;

    private static int wrong = 0;

    public static void main(String[] args) throws IOException {
        String source = Files.readString(SOURCE);
        String code = withoutRemarks(source);
        checkSigns(source);
        checkWords(code);
        checkMethods(code);
        if (wrong != 0) {
            System.exit(1);
        }
    }

    private static void say(String text) {
        wrong++;
        System.out.println(text);
    }

    private static void checkSigns(String source) {
        for (char c : source.toCharArray()) {
            if (c != '\n' && (c < 32 || c > 126)) {
                say("a sign outside 32 to 126: " + (int) c);
            }
        }
    }

    /** Remarks become nothing, texts and signs in quotes empty; lines stay. */
    private static String withoutRemarks(String source) {
        Pattern parts = Pattern.compile("//[^\n]*|(?s:/\\*.*?\\*/)|\"[^\"\n]*\"|'[^'\n]+'");
        Matcher found = parts.matcher(source);
        StringBuilder code = new StringBuilder();
        while (found.find()) {
            String part = found.group();
            String instead = part.startsWith("\"") ? "\"\"" : part.startsWith("'") ? "0" : part.replaceAll("[^\n]", "");
            found.appendReplacement(code, instead);
        }
        return found.appendTail(code).toString();
    }

    private static void checkWords(String code) {
        if (code.contains("->") || code.contains("::") || code.contains("@")) {
            say("a lambda, a method reference or an annotation");
        }
        if (Pattern.compile("\"\"\\s*\\+|\\+\\s*\"\"").matcher(code).find()) {
            say("texts joined by +");
        }
        Matcher words = Pattern.compile("[A-Za-z_][A-Za-z_0-9]*").matcher(code);
        while (words.find()) {
            String word = words.group();
            if (FORBIDDEN.contains(word)) {
                say("a word that is ruled out: " + word);
            }
            boolean isType = Character.isUpperCase(word.charAt(0)) && !word.equals(word.toUpperCase());
            if (isType && !LIBRARY.contains(word)) {
                say("a type that is not listed: " + word);
            }
        }
        Matcher field = Pattern.compile("static (?!final )[^\n(){]*[=;]").matcher(code);
        while (field.find()) {
            say("static, but neither a constant nor a function: " + field.group());
        }
    }

    private static void checkMethods(String code) {
        String[] lines = code.split("\n", -1);
        Pattern head = Pattern.compile("^( +)(?:[\\w\\[\\]]+ )+\\w+\\(([^)]*)\\) \\{$");
        int methods = 0;
        for (int i = 0; i < lines.length; i++) {
            Matcher found = head.matcher(lines[i]);
            if (!found.matches() || lines[i].trim().startsWith("else")) {
                continue;
            }
            methods++;
            int end = i;
            while (!lines[end].equals(found.group(1) + "}")) {
                end++;
            }
            if (end - i > MOST_LINES) {
                say("a method of " + (end - i) + " lines: " + lines[i].trim());
            }
            if (found.group(2).split(",").length > MOST_PARAMETERS) {
                say("too many parameters: " + lines[i].trim());
            }
        }
        if (methods < 41) {
            say("only " + methods + " methods were looked at");
        }
    }
}
