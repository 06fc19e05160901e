import java.io.ByteArrayOutputStream;
import java.io.PrintStream;
import java.lang.reflect.Method;
import java.lang.reflect.Modifier;
import java.net.URI;
import java.net.URL;
import java.net.URLClassLoader;
import java.nio.charset.StandardCharsets;
import java.nio.file.Files;
import java.nio.file.Path;
import java.util.List;
import java.util.TreeSet;
import javax.tools.JavaCompiler;
import javax.tools.SimpleJavaFileObject;
import javax.tools.ToolProvider;

/** Runs the example of README.md, and looks whether each call and test stands there. */
public final class ReadmeTest {
    private static String page;

    public static void main(String[] args) throws Exception {
        page = Files.readString(Path.of("README.md"));
        Check.due("what the example prints", block("text"), ReadmeTest::printed);
        Check.due("calls that README.md does not name", "[]", ReadmeTest::missingCalls);
        Check.due("tests that README.md does not name", "[]", ReadmeTest::missingTests);
        Check.end();
    }

    /** The first block of the page with this mark. */
    private static String block(String mark) {
        int start = page.indexOf("```" + mark + "\n") + mark.length() + 4;
        return page.substring(start, page.indexOf("```", start));
    }

    private static String printed() throws Exception {
        String example = block("java");
        Path out = Files.createTempDirectory("readme");
        JavaCompiler compiler = ToolProvider.getSystemJavaCompiler();
        var source = new SimpleJavaFileObject(URI.create("string:///Example.java"),
                javax.tools.JavaFileObject.Kind.SOURCE) {
            @Override
            public CharSequence getCharContent(boolean ignored) {
                return example;
            }
        };
        boolean compiled = compiler.getTask(null, null, null, List.of("-proc:none", "-d",
                out.toString(), "-cp", System.getProperty("java.class.path")), null,
                List.of(source)).call();
        return compiled ? run(out) : "not compiled";
    }

    private static String run(Path out) throws Exception {
        PrintStream before = System.out;
        ByteArrayOutputStream caught = new ByteArrayOutputStream();
        try (URLClassLoader loader = new URLClassLoader(new URL[] {out.toUri().toURL()})) {
            System.setOut(new PrintStream(caught, true, StandardCharsets.UTF_8));
            Method main = loader.loadClass("Example").getMethod("main", String[].class);
            main.invoke(null, (Object) new String[0]);
        } finally {
            System.setOut(before);
            Files.deleteIfExists(out.resolve("Example.class"));
            Files.deleteIfExists(out);
        }
        return caught.toString(StandardCharsets.UTF_8).replace(System.lineSeparator(), "\n");
    }

    private static String missingCalls() {
        TreeSet<String> missing = new TreeSet<>();
        for (Method method : Stringdrawer.class.getDeclaredMethods()) {
            boolean face = Modifier.isPublic(method.getModifiers());
            if (face && !page.contains("`" + method.getName() + "(")) {
                missing.add(method.getName());
            }
        }
        return missing.toString();
    }

    private static String missingTests() throws Exception {
        TreeSet<String> missing = new TreeSet<>();
        try (var files = Files.list(Path.of("src/test/java"))) {
            for (Path file : files.toList()) {
                String name = file.getFileName().toString().replace(".java", "");
                if (!page.contains("`" + name + "`")) {
                    missing.add(name);
                }
            }
        }
        return missing.toString();
    }
}
