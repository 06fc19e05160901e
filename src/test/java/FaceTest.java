import java.lang.reflect.Constructor;
import java.lang.reflect.Method;
import java.lang.reflect.Modifier;
import java.lang.reflect.Parameter;
import java.nio.file.Files;
import java.nio.file.Path;
import java.util.ArrayList;
import java.util.List;
import java.util.Set;
import java.util.TreeSet;

/** Compares the public members of the class with the face that DOC.md tells. */
public final class FaceTest {
    public static void main(String[] args) throws Exception {
        Set<String> wanted = new TreeSet<>();
        for (String line : Files.readAllLines(Path.of("../shared/DOC.md"))) {
            if (line.startsWith("    public ")) {
                wanted.add(line.strip().replaceAll(" ([a-z]\\w*)([,)])", "$2"));
            }
        }
        Check.due("members told", 41, wanted::size);
        Check.due("the face", String.join("\n", wanted), () -> String.join("\n", found()));
        Check.due("the class", "public final", () -> Modifier.toString(
                Stringdrawer.class.getModifiers()));
        Check.due("public and package-visible fields", 0L, () -> List.of(
                Stringdrawer.class.getDeclaredFields()).stream()
                .filter(field -> !Modifier.isPrivate(field.getModifiers())).count());
        Check.due("classes inside that are not private, static and final", 0L, () -> List.of(
                Stringdrawer.class.getDeclaredClasses()).stream()
                .filter(inside -> !Modifier.toString(inside.getModifiers())
                        .equals("private static final")).count());
        Check.end();
    }

    private static Set<String> found() {
        Set<String> members = new TreeSet<>();
        for (Constructor<?> made : Stringdrawer.class.getDeclaredConstructors()) {
            members.add(Modifier.toString(made.getModifiers()) + " Stringdrawer("
                    + types(made.getParameters()) + ");");
        }
        for (Method method : Stringdrawer.class.getDeclaredMethods()) {
            if (!Modifier.isPrivate(method.getModifiers())) {
                List<String> thrown = new ArrayList<>();
                for (Class<?> type : method.getExceptionTypes()) {
                    thrown.add(type.getSimpleName());
                }
                members.add(Modifier.toString(method.getModifiers()) + " "
                        + method.getReturnType().getSimpleName() + " " + method.getName() + "("
                        + types(method.getParameters()) + ")"
                        + (thrown.isEmpty() ? "" : " throws " + String.join(", ", thrown)) + ";");
            }
        }
        return members;
    }

    private static String types(Parameter[] parameters) {
        List<String> types = new ArrayList<>();
        for (Parameter parameter : parameters) {
            types.add(parameter.getType().getSimpleName());
        }
        return String.join(", ", types);
    }
}
