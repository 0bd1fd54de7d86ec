import java.io.IOException;
import java.lang.reflect.Method;
import java.lang.reflect.Modifier;
import java.net.URL;
import java.net.URLClassLoader;
import java.nio.file.Files;
import java.nio.file.Path;
import java.util.regex.Matcher;
import java.util.regex.Pattern;
import java.util.stream.Stream;
import javax.tools.ToolProvider;

/** README.md's Java is compiled and run as it stands there; each call is to answer what its line says. */
public final class ReadmeTest {
    private static final Pattern BLOCK = Pattern.compile("(?s)\n```java\n(.*?)```");
    private static final Pattern CALL =
            Pattern.compile("((?:int|long) (\\w+) = )?(ladders\\.\\w+\\(.*\\));\\s*// (-?\\d+|[A-Z]+)(?:: .*)?");

    private static final StringBuilder members = new StringBuilder();
    private static final StringBuilder calls = new StringBuilder();

    public static void main(String[] args) throws Exception {
        String readme = Files.readString(Path.of("README.md"));
        Matcher block = BLOCK.matcher(readme);
        while (block.find()) {
            take(block.group(1));
        }
        allOfTheFaceIsCalled();
        run("public final class ReadmeCalls {\n" + members + "public static void main(String[] args) {\n" + calls + "}\n}\n");
        Due.end();
    }

    private static void take(String java) {
        if (java.startsWith("static ")) {
            members.append(java);
            return;
        }
        for (String line : java.split("\n")) {
            if (!line.isEmpty()) {
                calls.append(checked(line));
            }
        }
    }

    /** What is neither the object's making nor a call with its answer has no place in a block of calls. */
    private static String checked(String line) {
        if (line.equals("ReignLadders ladders = new ReignLadders();")) {
            return line + "\n";
        }
        Matcher call = CALL.matcher(line);
        if (!call.matches()) {
            Due.is("README.md: a line without an answer: " + line, 1, 0);
            return "";
        }
        String named = call.group(2) == null ? "" : call.group(1) + call.group(3) + ";\n";
        String answer = call.group(2) == null ? call.group(3) : call.group(2);
        String want = Character.isLetter(call.group(4).charAt(0)) ? "ReignLadders." + call.group(4) : call.group(4) + "L";
        String shown = "README.md: " + call.group(3).replace("\"", "\\\"");
        return named + "Due.is(\"" + shown + "\", " + answer + ", " + want + ");\n";
    }

    private static void allOfTheFaceIsCalled() {
        for (Method method : ReignLadders.class.getDeclaredMethods()) {
            if (Modifier.isPublic(method.getModifiers())) {
                boolean called = calls.indexOf("ladders." + method.getName() + "(") >= 0;
                Due.is("README.md calls " + method.getName() + "()", called ? 1 : 0, 1);
            }
        }
    }

    private static void run(String source) throws Exception {
        Path directory = Files.createTempDirectory("readme");
        try {
            Path file = Files.writeString(directory.resolve("ReadmeCalls.java"), source);
            String own = System.getProperty("java.class.path");
            int failed = ToolProvider.getSystemJavaCompiler()
                    .run(null, null, null, "-cp", own, "-d", directory.toString(), file.toString());
            Due.is("README.md's Java compiles", failed, 0);
            if (failed == 0) {
                call(directory);
            }
        } finally {
            empty(directory);
        }
    }

    private static void call(Path directory) throws Exception {
        try (URLClassLoader loader = new URLClassLoader(new URL[] {directory.toUri().toURL()})) {
            loader.loadClass("ReadmeCalls").getMethod("main", String[].class).invoke(null, (Object) new String[0]);
        }
    }

    private static void empty(Path directory) throws IOException {
        try (Stream<Path> files = Files.list(directory)) {
            for (Path file : files.toList()) {
                Files.delete(file);
            }
        }
        Files.delete(directory);
    }
}
