import java.io.IOException;
import java.nio.file.Files;
import java.nio.file.Path;
import java.util.regex.Matcher;
import java.util.regex.Pattern;

/** Looks for what ../shared/LANGUAGE.md leaves out; it finds plain slips alone. */
public final class SourceTest {
    private static final String[] NEVER = {
        "->", "::", "\\bcatch\\b", "\\bfinally\\b", "\\bsynchronized\\b", "\\bassert\\b", "\\binstanceof\\b", "\\bObject\\b",
        "\\bSystem\\.(?!arraycopy)", "\\bRandom\\b", "\\bThread\\b", "\\bException\\b", "Exact\\(", "\\.equals\\(", "\\bvar\\b",
        "\\bprotected\\b", "^package", "\" \\+", "\\+ \"", "while \\(true\\)", "for \\(;;\\)", "\\?>", "@"};

    public static void main(String[] args) throws IOException {
        String source = Files.readString(Path.of("src/main/java/OnlyHalves.java"));
        String code = source.replaceAll("(?s)/\\*.*?\\*/", "").replaceAll("//[^\n]*", "");
        int wrong = 0;
        for (String never : NEVER) {
            Matcher found = Pattern.compile(never, Pattern.MULTILINE).matcher(code);
            if (found.find()) {
                wrong++;
                System.out.println("the source has " + found.group() + " at sign " + found.start());
            }
        }
        Matcher imports = Pattern.compile("(?m)^import (.*);$").matcher(code);
        while (imports.find()) {
            if (!imports.group(1).equals("java.util.Arrays") && !imports.group(1).equals("java.util.NoSuchElementException")) {
                wrong++;
                System.out.println("the source imports " + imports.group(1));
            }
        }
        wrong += countWrongMethods(code);
        System.out.println("the source has " + wrong + " slips");
        if (wrong != 0) {
            System.exit(1);
        }
    }

    /** No method but those of the face bears a name of the face, and none is longer than sixty lines. */
    private static int countWrongMethods(String code) {
        int wrong = 0;
        Matcher face = Pattern.compile("(?m)^    public (?:int|boolean) (\\w+)\\(").matcher(code);
        while (face.find()) {
            Matcher again = Pattern.compile("(?m)^ +(?:private )?(?:static )?[\\w\\[\\]]+ " + face.group(1) + "\\([^;]*\\{$").matcher(code);
            if (again.find() && !again.group().contains("return")) {
                wrong++;
                System.out.println("a method bears the name " + face.group(1));
            }
        }
        Matcher method = Pattern.compile("(?ms)^( +)(?:public |private )?(?:static )?[\\w\\[\\]]+ (\\w+)\\([^;{]*\\{$.*?^\\1\\}$").matcher(code);
        while (method.find()) {
            if (method.group().split("\n").length > 60) {
                wrong++;
                System.out.println("too long: " + method.group(2));
            }
        }
        return wrong;
    }
}
