import java.io.IOException;
import java.net.URL;
import java.net.URLClassLoader;
import java.nio.file.Files;
import java.nio.file.Path;
import java.util.ArrayList;
import java.util.List;
import java.util.regex.Matcher;
import java.util.regex.Pattern;
import javax.tools.ToolProvider;

/** The examples of README.md, compiled as they stand: each call answers what its comment says. */
public final class ReadmeTest {
    private static final Pattern BLOCK = Pattern.compile("```java\n(.*?)```", Pattern.DOTALL);
    private static final Pattern LINE = Pattern.compile("(?:int (\\w+) = )?(x\\.\\w+\\(.*\\)); +// (-?\\d+|[A-Z]+)\\b.*");
    private static final int LEAST_CALLS = 40;

    private static int calls = 0;
    private static int wrong = 0;

    private ReadmeTest() { }

    /** The examples call this, from a class that is made of them. */
    public static void due(String call, long got, long want) {
        calls++;
        if (got != want) {
            wrong++;
            System.out.println(call + " answered " + got + ", README.md says " + want);
        }
    }

    public static void main(String[] args) throws IOException, ReflectiveOperationException {
        Path folder = Files.createTempDirectory("readme");
        try {
            run(folder);
        } finally {
            for (String name : new String[] {"Examples.java", "Examples.class"}) {
                Files.deleteIfExists(folder.resolve(name));
            }
            Files.delete(folder);
        }
        System.out.println(calls + " calls of README.md, " + wrong + " not as it says");
        if (wrong != 0 || calls < LEAST_CALLS) {
            System.exit(1);
        }
    }

    private static void run(Path folder) throws IOException, ReflectiveOperationException {
        Path source = folder.resolve("Examples.java");
        Files.writeString(source, examples(Files.readString(Path.of("README.md"))));
        String[] options = {"-cp", System.getProperty("java.class.path"), "-d", folder.toString(), source.toString()};
        if (ToolProvider.getSystemJavaCompiler().run(null, System.out, System.out, options) != 0) {
            wrong++;
            return;
        }
        try (URLClassLoader loader = new URLClassLoader(new URL[] {folder.toUri().toURL()})) {
            loader.loadClass("Examples").getMethod("run").invoke(null);
        }
    }

    private static String examples(String readme) {
        List<String> lines = new ArrayList<>();
        lines.add("public final class Examples { public static void run() {");
        Matcher blocks = BLOCK.matcher(readme);
        while (blocks.find()) {
            lines.add("{");
            for (String line : blocks.group(1).split("\n")) {
                lines.add(example(line));
            }
            lines.add("}");
        }
        lines.add("} }");
        return String.join("\n", lines);
    }

    private static String example(String line) {
        Matcher parts = LINE.matcher(line);
        if (!parts.matches()) {
            return line;
        }
        String call = parts.group(2);
        String keep = parts.group(1) == null ? "" : "int " + parts.group(1) + " = " + call + "; ";
        String value = parts.group(1) == null ? call : parts.group(1);
        String text = call.replace("\\", "\\\\").replace("\"", "\\\"");
        return keep + "ReadmeTest.due(\"" + text + "\", " + value + ", " + Call.number(parts.group(3)) + "L);";
    }
}
