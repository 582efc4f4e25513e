import java.io.IOException;
import java.net.URL;
import java.net.URLClassLoader;
import java.nio.file.Files;
import java.nio.file.Path;
import java.util.regex.Matcher;
import java.util.regex.Pattern;
import javax.tools.ToolProvider;

/** Compiles the example of README.md and runs it: each call answers what stands behind it. */
public final class ReadmeTest {
    private static final Pattern BLOCK = Pattern.compile("(?s)```java\n(.*?)```");
    private static final Pattern CALL = Pattern.compile("(x\\.\\w+\\(.*?\\));\\s+// (-?\\d+|NoSuchElementException)\\b.*");
    private static final int LEAST_CALLS = 15;

    public static void main(String[] args) throws IOException, ReflectiveOperationException {
        Path folder = Files.createTempDirectory("readme");
        Path source = folder.resolve("Example.java");
        Files.writeString(source, example(Files.readString(Path.of("README.md"))));
        int failed = ToolProvider.getSystemJavaCompiler().run(null, null, null,
                "-cp", System.getProperty("java.class.path"), "-d", folder.toString(), source.toString());
        int wrong = 1;
        int calls = 0;
        if (failed == 0) {
            try (URLClassLoader loader = new URLClassLoader(new URL[] {folder.toUri().toURL()})) {
                Class<?> made = loader.loadClass("Example");
                made.getMethod("run").invoke(null);
                wrong = made.getField("wrong").getInt(null);
                calls = made.getField("calls").getInt(null);
            }
        }
        for (String name : new String[] {"Example.java", "Example.class", ""}) {
            Files.deleteIfExists(folder.resolve(name));
        }
        System.out.println(calls + " calls of README.md, " + wrong + " wrong");
        if (wrong != 0 || calls < LEAST_CALLS) {
            System.exit(1);
        }
    }

    private static String example(String readme) {
        StringBuilder made = new StringBuilder("public final class Example {\n"
                + "public static int wrong;\npublic static int calls;\n"
                + "static void due(String call, long got, long want) {\n"
                + "calls++;\nif (got != want) {\nwrong++;\n"
                + "System.out.println(call + \" answered \" + got + \", README.md says \" + want);\n}\n}\n");
        Matcher block = BLOCK.matcher(readme);
        while (block.find()) {
            String code = block.group(1);
            made.append(code.startsWith("static ") ? code : "public static void run() {\n" + looked(code) + "}\n");
        }
        return made.append("}\n").toString();
    }

    private static String looked(String code) {
        StringBuilder made = new StringBuilder();
        for (String line : code.split("\n")) {
            Matcher call = CALL.matcher(line);
            if (!call.matches()) {
                made.append(line).append('\n');
            } else if (call.group(2).startsWith("No")) {
                made.append("try {\n").append(call.group(1)).append(";\ndue(\"").append(call.group(1))
                        .append("\", 0, 1);\n} catch (java.util.NoSuchElementException e) {\ncalls++;\n}\n");
            } else {
                made.append("due(\"").append(call.group(1)).append("\", ").append(call.group(1))
                        .append(", ").append(call.group(2)).append(");\n");
            }
        }
        return made.toString();
    }
}
