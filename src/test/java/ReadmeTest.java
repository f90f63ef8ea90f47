import java.io.IOException;
import java.lang.reflect.InvocationTargetException;
import java.lang.reflect.Method;
import java.lang.reflect.Modifier;
import java.net.URL;
import java.net.URLClassLoader;
import java.nio.file.Files;
import java.nio.file.Path;
import java.util.List;
import javax.tools.JavaCompiler;
import javax.tools.ToolProvider;

/** The README's example does what the README says, and its table has all calls of the class. */
public final class ReadmeTest {
    static int wrong = 0;

    /** The example's lines call this; it is told to them under this name. */
    public interface Call {
        Object answer();
    }

    public static void due(String line, String due, Call call) {
        String got;
        try {
            got = String.valueOf(call.answer());
        } catch (RuntimeException e) {
            got = e.getClass().getSimpleName();
        }
        same(line, got, due);
    }

    public static void same(String line, String got, String due) {
        if (!got.equals(due)) {
            wrong++;
            System.out.println("README: " + line + " answered " + got);
        }
    }

    public static void main(String[] args) throws Exception {
        List<String> page = Files.readAllLines(Path.of("README.md"));
        int asked = runExample(page);
        for (Method method : Wagnerhall.class.getDeclaredMethods()) {
            if (Modifier.isPublic(method.getModifiers())) isInTable(page, method.getName());
        }
        if (asked < 30) fail("the example has only " + asked + " answers");
        System.out.println(asked + " answers of the README, " + wrong + " wrong");
        System.exit(wrong == 0 ? 0 : 1);
    }

    static void fail(String text) {
        wrong++;
        System.out.println("README: " + text);
    }

    static void isInTable(List<String> page, String call) {
        for (String line : page) {
            if (line.startsWith("| ") && line.contains("`" + call + "`")) return;
        }
        fail("no row of the table has " + call);
    }

    static int runExample(List<String> page) throws IOException, ReflectiveOperationException {
        StringBuilder body = new StringBuilder();
        int answers = 0;
        boolean isInside = false;
        for (String line : page) {
            if (line.startsWith("```")) {
                isInside = line.equals("```java");
            } else if (isInside) {
                answers += addLine(body, line);
            }
        }
        Path place = Files.createTempDirectory("readme");
        Path file = place.resolve("Example.java");
        // The last that is told is deleted first.
        place.toFile().deleteOnExit();
        file.toFile().deleteOnExit();
        place.resolve("Example.class").toFile().deleteOnExit();
        Files.writeString(file, "public class Example { public static void run() {\n" + body + "} }\n");
        JavaCompiler compiler = ToolProvider.getSystemJavaCompiler();
        String path = System.getProperty("java.class.path");
        if (compiler.run(null, null, null, "-cp", path, "-d", place.toString(), file.toString()) != 0) {
            fail("the example does not compile");
            return answers;
        }
        try (URLClassLoader loader = new URLClassLoader(new URL[] {place.toUri().toURL()})) {
            loader.loadClass("Example").getMethod("run").invoke(null);
        } catch (InvocationTargetException e) {
            fail("the example threw " + e.getCause());
        }
        return answers;
    }

    /** A line "call;  // answer: why" asks the call; a line "int name = call;  // answer: why" also keeps it. */
    static int addLine(StringBuilder body, String line) {
        int split = line.indexOf("// ");
        if (split < 0) {
            body.append(line).append('\n');
            return 0;
        }
        String code = line.substring(0, split).strip();
        String told = line.substring(split + 3);
        String due = told.contains(": ") ? told.substring(0, told.indexOf(": ")) : told.strip();
        String shown = "\"" + line.replace("\\", "\\\\").replace("\"", "\\\"") + "\", ";
        if (code.startsWith("int ")) {
            String name = code.substring(4, code.indexOf(' ', 4));
            body.append(code).append("\nReadmeTest.same(").append(shown).append("String.valueOf(").append(name);
            body.append("), \"").append(due).append("\");\n");
        } else {
            body.append("ReadmeTest.due(").append(shown).append('"').append(due).append("\", () -> ");
            body.append(code, 0, code.length() - 1).append(");\n");
        }
        return 1;
    }
}
