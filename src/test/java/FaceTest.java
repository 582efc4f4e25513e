import java.io.IOException;
import java.lang.reflect.Constructor;
import java.lang.reflect.Field;
import java.lang.reflect.Method;
import java.lang.reflect.Modifier;
import java.nio.file.Files;
import java.nio.file.Path;
import java.util.Arrays;
import java.util.Set;
import java.util.TreeSet;
import java.util.stream.Collectors;

/** The class has the public face that the document writes out, and nothing else that others could call. */
public final class FaceTest {
    public static void main(String[] args) throws IOException {
        Set<String> told = faceOfTheDocument();
        Set<String> found = faceOfTheClass();
        int wrong = 0;
        for (String line : told) {
            if (!found.contains(line)) {
                wrong++;
                System.out.println("the class lacks " + line);
            }
        }
        for (String line : found) {
            if (!told.contains(line)) {
                wrong++;
                System.out.println("the document lacks " + line);
            }
        }
        if (!Modifier.isFinal(OnlyHalves.class.getModifiers()) || OnlyHalves.NONE != -1) {
            wrong++;
            System.out.println("the class is not final, or NONE is not -1");
        }
        System.out.println(told.size() + " members of the face, " + wrong + " wrong");
        if (wrong != 0 || told.size() != 48) {
            System.exit(1);
        }
    }

    private static Set<String> faceOfTheDocument() throws IOException {
        String doc = Files.readString(Path.of("../shared/DOC.md"));
        String face = doc.substring(doc.indexOf("public final class"), doc.indexOf("## Terms"));
        Set<String> lines = new TreeSet<>();
        for (String line : face.split("\n")) {
            if (line.startsWith("    public ")) {
                lines.add(line.trim().replaceAll("(int|boolean) \\w+(?=[,)])", "$1").replaceAll(" = .*|;", ""));
            }
        }
        return lines;
    }

    private static Set<String> faceOfTheClass() {
        Set<String> lines = new TreeSet<>();
        for (Method method : OnlyHalves.class.getDeclaredMethods()) {
            if (!Modifier.isPrivate(method.getModifiers())) {
                lines.add(Modifier.toString(method.getModifiers()) + " " + method.getReturnType() + " " + method.getName()
                        + listed(method.getParameterTypes(), method.getExceptionTypes()));
            }
        }
        for (Constructor<?> constructor : OnlyHalves.class.getDeclaredConstructors()) {
            lines.add(Modifier.toString(constructor.getModifiers()) + " OnlyHalves"
                    + listed(constructor.getParameterTypes(), constructor.getExceptionTypes()));
        }
        for (Field field : OnlyHalves.class.getDeclaredFields()) {
            if (!Modifier.isPrivate(field.getModifiers())) {
                lines.add(Modifier.toString(field.getModifiers()) + " " + field.getType() + " " + field.getName());
            }
        }
        return lines;
    }

    private static String listed(Class<?>[] parameters, Class<?>[] exceptions) {
        String thrown = names(exceptions);
        return "(" + names(parameters) + ")" + (thrown.isEmpty() ? "" : " throws " + thrown);
    }

    private static String names(Class<?>[] types) {
        return Arrays.stream(types).map(Class::getSimpleName).collect(Collectors.joining(", "));
    }
}
