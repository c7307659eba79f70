import java.lang.reflect.Method;
import java.lang.reflect.Modifier;
import java.net.URL;
import java.net.URLClassLoader;
import java.nio.file.Files;
import java.nio.file.Path;
import java.util.Map;
import java.util.TreeMap;
import java.util.regex.Matcher;
import java.util.regex.Pattern;
import javax.tools.ToolProvider;

/** README.md: its example compiles and answers as its comments say, and no call is left out. */
public final class ReadmeTest {
    private static final Pattern ANSWER = Pattern.compile("int (\\w+) = x\\..*; *// (-?\\d+)");

    public static void main(String[] args) throws Exception {
        String readme = Files.readString(Path.of("README.md"));
        callsAreNamed(readme);
        exampleAnswers(readme.replaceAll("(?s).*\n```java\n(.*?)\n```\n.*", "$1"));
        Check.finish();
    }

    private static void callsAreNamed(String readme) {
        for (Method m : SoupWall.class.getDeclaredMethods()) {
            if (Modifier.isPublic(m.getModifiers())) {
                String commas = ",[^,)]*".repeat(Math.max(0, m.getParameterCount() - 1));
                String call = "`" + m.getName() + "\\(" + (m.getParameterCount() == 0 ? "" : "[^,)]+") + commas + "\\)`";
                Check.holds("README.md tells what " + m.getName() + " is for", Pattern.compile(call).matcher(readme).find());
            }
        }
    }

    private static void exampleAnswers(String example) throws Exception {
        Map<String, Integer> due = new TreeMap<>();
        Matcher m = ANSWER.matcher(example);
        while (m.find()) {
            due.put(m.group(1), Integer.valueOf(m.group(2)));
        }
        Check.holds("the example tells answers", !due.isEmpty());
        Map<?, ?> got = run(example, due.keySet());
        for (String name : due.keySet()) {
            Check.holds(name + " is " + due.get(name) + " in the example, not " + got.get(name), due.get(name).equals(got.get(name)));
        }
    }

    private static Map<?, ?> run(String example, Iterable<String> names) throws Exception {
        StringBuilder code = new StringBuilder("public final class Example { public static java.util.Map<String, Integer> run() {\n");
        code.append(example).append("\njava.util.Map<String, Integer> all = new java.util.TreeMap<>();\n");
        for (String name : names) {
            code.append("all.put(\"").append(name).append("\", ").append(name).append(");\n");
        }
        code.append("return all; } }\n");
        Path room = Files.createTempDirectory("readme");
        Path file = Files.writeString(room.resolve("Example.java"), code);
        int errors = ToolProvider.getSystemJavaCompiler().run(null, null, null,
                "-cp", System.getProperty("java.class.path"), "-d", room.toString(), file.toString());
        Check.due("errors of the example's compiler", 0, errors);
        try (URLClassLoader loader = new URLClassLoader(new URL[] {room.toUri().toURL()})) {
            return errors != 0 ? Map.of() : (Map<?, ?>) loader.loadClass("Example").getMethod("run").invoke(null);
        } finally {
            Files.deleteIfExists(room.resolve("Example.class"));
            Files.delete(file);
            Files.delete(room);
        }
    }
}
