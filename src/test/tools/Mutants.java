import java.io.IOException;
import java.nio.file.Files;
import java.nio.file.Path;
import java.util.ArrayList;
import java.util.Collections;
import java.util.List;
import java.util.concurrent.ExecutorService;
import java.util.concurrent.Executors;
import java.util.concurrent.TimeUnit;
import java.util.regex.Matcher;
import java.util.regex.Pattern;
import javax.tools.ToolProvider;

/**
 * Breaks the class in one small place at a time and tells which broken classes a test lets pass.
 * It is run by hand, from the project's folder, and takes some minutes:
 * java src/test/tools/Mutants.java EdgesDaysTest,EdgesKeptTest [FROM_LINE TO_LINE]
 */
public final class Mutants {
    private static final Path SOURCE = Path.of("src/main/java/OnlyHalves.java");
    private static final String[][] SIGNS = {
        {" < ", " <= "}, {" <= ", " < "}, {" > ", " >= "}, {" >= ", " > "}, {" < ", " > "}, {" > ", " < "},
        {" == ", " != "}, {" != ", " == "}, {" && ", " || "}, {" || ", " && "},
        {" + ", " - "}, {" - ", " + "}, {" * ", " + "}, {" / ", " * "}, {" & ", " | "}, {" | ", " & "},
        {" ^ ", " & "}, {" >>> ", " >> "}, {" << ", " >>> "}, {"++", "--"}, {" += ", " -= "},
        {"true", "false"}, {"false", "true"}, {"continue;", "break;"}, {"!", ""}, {"~", ""},
        {"Math.max", "Math.min"}, {"Math.min", "Math.max"}, {"return NONE;", "return -2;"}};

    public static void main(String[] args) throws Exception {
        String[] names = args[0].split(",");
        int from = args.length > 1 ? Integer.parseInt(args[1]) : 1;
        int to = args.length > 2 ? Integer.parseInt(args[2]) : Integer.MAX_VALUE;
        Path home = Files.createTempDirectory("mutants");
        Path tests = Files.createDirectory(home.resolve("tests"));
        for (String name : names) {
            compile(tests, SOURCE, Path.of("src/test/java/" + name + ".java"));
        }
        Files.delete(tests.resolve("OnlyHalves.class"));
        List<String[]> mutants = mutantsOf(Files.readString(SOURCE), from, to);
        List<String> passed = Collections.synchronizedList(new ArrayList<>());
        ExecutorService workers = Executors.newFixedThreadPool(Runtime.getRuntime().availableProcessors());
        for (int i = 0; i < mutants.size(); i++) {
            int number = i;
            workers.execute(() -> {
                try {
                    if (passes(home.resolve("m" + number), tests, mutants.get(number)[1], names)) {
                        passed.add(mutants.get(number)[0]);
                    }
                } catch (IOException | InterruptedException e) {
                    passed.add("not tried: " + mutants.get(number)[0] + " " + e);
                }
            });
        }
        workers.shutdown();
        workers.awaitTermination(1, TimeUnit.HOURS);
        Collections.sort(passed);
        for (String line : passed) {
            System.out.println(line);
        }
        System.out.println(mutants.size() + " mutants, " + passed.size() + " passed " + args[0]);
    }

    private static int compile(Path out, Path source, Path test) {
        List<String> words = new ArrayList<>(List.of("-nowarn", "-proc:none", "-sourcepath", "src/test/support"));
        words.addAll(List.of("-d", out.toString(), source.toString()));
        if (test != null) {
            words.add(test.toString());
        }
        return ToolProvider.getSystemJavaCompiler().run(null, java.io.OutputStream.nullOutputStream(),
                java.io.OutputStream.nullOutputStream(), words.toArray(new String[0]));
    }

    private static boolean passes(Path out, Path tests, String source, String[] names) throws IOException, InterruptedException {
        Files.createDirectory(out);
        Path file = out.resolve("OnlyHalves.java");
        Files.writeString(file, source);
        if (compile(out, file, null) != 0) {
            return false;
        }
        for (String name : names) {
            if (!passes(out + ":" + tests, name)) {
                return false;
            }
        }
        return true;
    }

    private static boolean passes(String classes, String test) throws IOException, InterruptedException {
        Process run = new ProcessBuilder("java", "-XX:TieredStopAtLevel=1", "-XX:+UseSerialGC", "-cp", classes, test)
                .redirectErrorStream(true).redirectOutput(ProcessBuilder.Redirect.DISCARD).start();
        if (!run.waitFor(30, TimeUnit.SECONDS)) {
            run.destroyForcibly();
            return false;
        }
        return run.exitValue() == 0;
    }

    private static List<String[]> mutantsOf(String source, int from, int to) {
        List<String[]> all = new ArrayList<>();
        String[] lines = source.split("\n", -1);
        for (int i = 0; i < lines.length; i++) {
            String line = lines[i];
            String bare = line.trim();
            if (i + 1 < from || i + 1 > to || bare.startsWith("//") || bare.startsWith("*") || bare.startsWith("/*")
                    || bare.startsWith("import") || bare.startsWith("throw")) {
                continue;
            }
            for (String[] sign : SIGNS) {
                for (int at = line.indexOf(sign[0]); at >= 0; at = line.indexOf(sign[0], at + 1)) {
                    add(all, lines, i, line.substring(0, at) + sign[1] + line.substring(at + sign[0].length()));
                }
            }
            Matcher number = Pattern.compile("(?<![\\w.'x])\\d+(?![\\w.'])").matcher(line);
            while (number.find()) {
                int n = Integer.parseInt(number.group().length() > 9 ? "7" : number.group());
                add(all, lines, i, line.substring(0, number.start()) + (n + 1) + line.substring(number.end()));
                add(all, lines, i, line.substring(0, number.start()) + (n - 1) + line.substring(number.end()));
            }
            if (bare.matches("[\\w.\\[\\]]+( [+|&^-]?= .*|\\(.*\\)|\\+\\+|--);")) {
                add(all, lines, i, "");
            }
        }
        return all;
    }

    private static void add(List<String[]> all, String[] lines, int at, String mutant) {
        String[] changed = lines.clone();
        changed[at] = mutant;
        String name = String.format("%5d: %s  ==>  %s", at + 1, lines[at].trim(), mutant.trim());
        all.add(new String[] {name, String.join("\n", changed)});
    }
}
