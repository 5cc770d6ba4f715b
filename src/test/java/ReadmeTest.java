import java.io.IOException;
import java.net.URL;
import java.net.URLClassLoader;
import java.nio.file.Files;
import java.nio.file.Path;
import java.util.regex.Matcher;
import java.util.regex.Pattern;
import javax.tools.ToolProvider;

/** README's examples are one program, and each of its lines answers, or throws, what stands beside it. */
public final class ReadmeTest {
    private static final Pattern BLOCK = Pattern.compile("(?s)```java\n(.*?)```");
    private static final Pattern TOLD = Pattern.compile("( *)(?:int (\\w+) = )?(.*);\\s+// (answers|throws) (.*)");

    public static void main(String[] args) throws IOException, ReflectiveOperationException {
        Path room = Files.createTempDirectory("readme");
        Path source = room.resolve("Readme.java");
        Files.writeString(source, program(Files.readString(Path.of("README.md"))));
        String classes = System.getProperty("java.class.path");
        int code = ToolProvider.getSystemJavaCompiler().run(null, null, null, "-cp", classes, "-d", room.toString(), source.toString());
        Check.due("the examples compile", 0, () -> code);
        try (URLClassLoader loader = new URLClassLoader(new URL[] {room.toUri().toURL()})) {
            loader.loadClass("Readme").getMethod("main").invoke(null);
        }
        Files.delete(room.resolve("Readme.class"));
        Files.delete(source);
        Files.delete(room);
        for (String file : Path.of("src/test/java").toFile().list()) {
            String name = file.replace(".java", "");
            Check.that(name + " stands in README.md", Files.readString(Path.of("README.md")).contains("`" + name + "`"));
        }
        Check.finish("ReadmeTest");
    }

    private static String program(String text) {
        StringBuilder program = new StringBuilder("import java.util.*; public class Readme { private static String told; "
                + "private static Object tell(Object answer) { told = \"\" + answer; return answer; } "
                + "private static void due(String line, String due) { ReadmeTest.due(line, due, told); }"
                + "public static void main() {\n");
        Matcher blocks = BLOCK.matcher(text);
        while (blocks.find()) {
            for (String line : blocks.group(1).split("\n")) {
                program.append(checked(line)).append('\n');
            }
        }
        return program.append("}}").toString();
    }

    private static String checked(String line) {
        Matcher told = TOLD.matcher(line);
        if (!told.matches()) {
            return line;
        }
        String call = told.group(3);
        String due = "due(\"" + call.replace("\"", "\\\"") + "\", \"" + told.group(5) + "\");";
        if (told.group(4).equals("throws")) {
            return "try { tell(" + call + "); } catch (" + told.group(5) + " e) { tell(\"" + told.group(5) + "\"); } " + due;
        }
        return (told.group(2) == null ? "" : "int " + told.group(2) + " = (int) ") + "tell(" + call + "); " + due;
    }

    /** The program's lines are compared here, so that they count as checks of this test. */
    public static void due(String line, String due, String told) {
        Check.due(line, due, () -> told);
    }
}
