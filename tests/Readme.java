import java.io.File;
import java.lang.reflect.Method;
import java.lang.reflect.Modifier;
import java.net.URL;
import java.net.URLClassLoader;
import java.nio.file.Files;
import java.nio.file.Path;
import java.util.regex.Matcher;
import java.util.regex.Pattern;
import javax.tools.ToolProvider;

/** README.md: its example answers as it says, and no call and no test is missing. */
public final class Readme {
    private static final Checks T = new Checks();
    /** A line of the example: a call and, behind //, what it answers. */
    private static final Pattern LINE = Pattern.compile("(x\\..*); *// (-?\\d+|true|false)\\b.*");

    public static void main(String[] args) throws Exception {
        String page = Files.readString(Path.of("README.md"));
        for (Method m : SnowForSummer.class.getDeclaredMethods()) {
            if (Modifier.isPublic(m.getModifiers())) {
                T.due(m.getName() + " is told of", page.contains("| `" + m.getName() + "` ")
                    || page.contains("` `" + m.getName() + "` "), true);
            }
        }
        for (String file : new File("tests").list()) {
            if (file.endsWith(".java")) {
                T.due(file + " is told of", page.contains("`" + file.replace(".java", "") + "`"), true);
            }
        }
        T.due("how to run the tests", page.contains("    bash .ci/run\n"), true);
        example(page);
        T.finish();
    }

    private static void example(String page) throws Exception {
        int from = page.indexOf("```java\n") + 8;
        String[] lines = page.substring(from, page.indexOf("```", from)).split("\n");
        StringBuilder code = new StringBuilder("public class Example { public static Object[] run() {\n");
        StringBuilder due = new StringBuilder();
        int calls = 0;
        code.append(lines[0]).append("\nreturn new Object[] {\n");
        for (int i = 1; i < lines.length; i++) {
            Matcher m = LINE.matcher(lines[i]);
            T.due("a call and its answer: " + lines[i], m.matches(), true);
            if (m.matches()) {
                code.append(m.group(1)).append(",\n");
                due.append(m.group(2)).append(' ');
                calls++;
            }
        }
        code.append("}; } }\n");
        T.due("the example has calls", calls > 0, true);
        Object[] got = ran(code.toString());
        String[] want = due.toString().split(" ");
        for (int i = 0; i < got.length; i++) {
            T.due(lines[i + 1] + ": answered " + got[i], got[i].toString().equals(want[i]), true);
        }
    }

    private static Object[] ran(String code) throws Exception {
        Path place = Files.createTempDirectory("readme");
        Path file = place.resolve("Example.java");
        Files.writeString(file, code);
        String classes = System.getProperty("java.class.path");
        int fault = ToolProvider.getSystemJavaCompiler()
            .run(null, null, null, "-cp", classes, "-d", place.toString(), file.toString());
        T.due("the example compiles", fault, 0);
        if (fault != 0) {
            T.finish();
        }
        try (URLClassLoader loader = new URLClassLoader(new URL[] {place.toUri().toURL()}, Readme.class.getClassLoader())) {
            return (Object[]) loader.loadClass("Example").getMethod("run").invoke(null);
        } finally {
            for (File made : place.toFile().listFiles()) {
                made.delete();
            }
            place.toFile().delete();
        }
    }
}
