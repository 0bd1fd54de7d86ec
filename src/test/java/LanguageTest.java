import java.io.IOException;
import java.nio.charset.StandardCharsets;
import java.nio.file.Files;
import java.nio.file.Path;
import java.util.regex.Matcher;
import java.util.regex.Pattern;

/** Rules of ../shared/LANGUAGE.md that can be seen from the program's letters alone. */
public final class LanguageTest {
    private static final String[] NEVER = {"import", "package", "try", "catch", "finally", "throw", "throws",
        "synchronized", "assert", "volatile", "transient", "native", "yield", "protected", "Object", "Class", "Thread",
        "Random", "HashMap", "Exception", "equals", "hashCode", "toString"};
    private static final String[] LIBRARY = {"Math.max", "Math.min", "Math.abs", "Integer.bitCount", "System.arraycopy"};
    private static final int MOST_LINES = 60;

    public static void main(String[] args) throws IOException {
        byte[] bytes = Files.readAllBytes(Path.of("src/main/java/ReignLadders.java"));
        for (byte letter : bytes) {
            Due.is("a letter that is " + letter, letter > 0 ? 1 : 0, 1);
        }
        String source = new String(bytes, StandardCharsets.ISO_8859_1);
        String code = source.replaceAll("(?s)/\\*.*?\\*/", "").replaceAll("//[^\n]*", "").replaceAll("'.'", "' '");
        for (String word : NEVER) {
            Due.is("the word " + word, found(code, "\\b" + word + "\\b"), 0);
        }
        Due.is("lambdas", found(code, "->"), 0);
        Due.is("method references", found(code, "::"), 0);
        Due.is("texts", found(code, "\""), 0);
        Due.is("static initialisers", found(code, "static\\s*\\{"), 0);
        Due.is("static fields that are not final", found(code, "static\\s+(?!final)\\w+(\\[\\])?\\s+\\w+\\s*[=;]"), 0);
        Due.is("divisions", found(code, "[/%]"), 0);
        int library = 0;
        for (String call : LIBRARY) {
            library += found(code, "\\b" + Pattern.quote(call) + "\\(");
        }
        Due.is("calls of the library that are not listed here", found(code, "\\b[A-Z][a-z]+\\.\\w+\\(")
                - found(code, "\\b(Reigns|Ties|Page)\\.\\w+\\("), library);
        methodsAreShort(code);
        Due.end();
    }

    private static int found(String code, String pattern) {
        Matcher matcher = Pattern.compile(pattern).matcher(code);
        int count = 0;
        while (matcher.find()) {
            count++;
        }
        return count;
    }

    /** A method ends at the first brace that stands as far to the right as it begins. */
    private static void methodsAreShort(String code) {
        Matcher head = Pattern.compile("\n( {4}| {8})\\w[^\n;]*\\([^\n;]*(?:\n[^\n;]*)?\\{\n").matcher(code);
        int methods = 0;
        while (head.find()) {
            int end = code.indexOf("\n" + head.group(1) + "}", head.start());
            int lines = code.substring(head.start(), end).split("\n").length;
            Due.is("lines of" + head.group().trim(), lines > MOST_LINES ? lines : 0, 0);
            methods++;
        }
        Due.is("methods are found", methods > 100 ? 1 : 0, 1);
    }
}
