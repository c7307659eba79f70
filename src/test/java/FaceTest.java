import java.lang.reflect.Constructor;
import java.lang.reflect.Executable;
import java.lang.reflect.Field;
import java.lang.reflect.Method;
import java.lang.reflect.Modifier;
import java.nio.file.Files;
import java.nio.file.Path;
import java.util.ArrayList;
import java.util.Arrays;
import java.util.List;
import java.util.Map;
import java.util.Set;
import java.util.TreeMap;
import java.util.TreeSet;
import java.util.regex.Matcher;
import java.util.regex.Pattern;
import java.util.stream.Collectors;

/** The public face as the document has it, and those rules of LANGUAGE.md that a test can see. */
public final class FaceTest {
    private static final int MOST_LINES = 60;
    private static final int MOST_PARAMETERS = 7;
    private static final int MOST_FIELDS = 20;
    private static final int MOST_CLASSES = 12;

    public static void main(String[] args) throws Exception {
        constants();
        methods();
        constructors();
        for (Class<?> c : allClasses()) {
            sizes(c);
            staticFields(c);
        }
        words();
        lengths();
        whereObjectsAreMade();
        Check.finish();
    }

    private static void constants() throws Exception {
        Map<String, Integer> due = new TreeMap<>();
        Matcher m = Pattern.compile("([A-Z]+) = (-?\\d+)").matcher(Doc.face());
        while (m.find()) {
            due.put(m.group(1), Integer.valueOf(m.group(2)));
        }
        Map<String, Integer> seen = new TreeMap<>();
        for (Field f : SoupWall.class.getDeclaredFields()) {
            if (!Modifier.isPrivate(f.getModifiers())) {
                Check.holds(f + " is a public constant", f.toString().startsWith("public static final int "));
                seen.put(f.getName(), f.getInt(null));
            }
        }
        Check.holds("the constants are those of the document: " + seen + ", due are " + due, seen.equals(due));
        Check.due("constants", 5, seen.size());
    }

    private static void methods() {
        Set<String> due = new TreeSet<>();
        Matcher m = Pattern.compile("public int (\\w+)\\(([^)]*)\\);").matcher(Doc.face());
        while (m.find()) {
            due.add("public int " + m.group(1) + "(" + m.group(2).replaceAll(" \\w+(,|$)", "$1") + ")");
        }
        Set<String> seen = new TreeSet<>();
        Set<String> open = new TreeSet<>();
        for (Method method : SoupWall.class.getDeclaredMethods()) {
            if (!Modifier.isPrivate(method.getModifiers())) {
                open.add(method.getName());
                seen.add(Modifier.toString(method.getModifiers()) + " " + method.getReturnType() + " " + method.getName()
                        + Arrays.stream(method.getParameterTypes()).map(Class::getName).collect(Collectors.joining(", ", "(", ")")));
            }
        }
        Check.holds("the methods are those of the document: " + seen + ", due are " + due, seen.equals(due));
        Check.due("methods", 30, seen.size());
        for (Method method : SoupWall.class.getDeclaredMethods()) {
            Check.holds("only public methods are called " + method.getName(),
                    Modifier.isPublic(method.getModifiers()) || !open.contains(method.getName()));
        }
    }

    private static void constructors() {
        Constructor<?>[] all = SoupWall.class.getDeclaredConstructors();
        Check.due("constructors", 1, all.length);
        Check.holds("it is public", all[0].toString().equals("public SoupWall()"));
        Check.holds("the document has it", Doc.face().contains("    public SoupWall();"));
        Check.holds("the class is public and final", Modifier.toString(SoupWall.class.getModifiers()).equals("public final"));
        Check.holds("the document has it so", Doc.face().contains("public final class SoupWall {"));
    }

    private static List<Class<?>> allClasses() {
        List<Class<?>> all = new ArrayList<>();
        all.add(SoupWall.class);
        for (Class<?> inside : SoupWall.class.getDeclaredClasses()) {
            Check.holds(inside + " is private and static",
                    Modifier.isPrivate(inside.getModifiers()) && Modifier.isStatic(inside.getModifiers()));
            all.add(inside);
        }
        Check.holds("at most twelve classes", all.size() <= MOST_CLASSES);
        return all;
    }

    private static void sizes(Class<?> c) {
        List<Executable> all = new ArrayList<>(Arrays.asList(c.getDeclaredMethods()));
        all.addAll(Arrays.asList(c.getDeclaredConstructors()));
        for (Executable e : all) {
            Check.holds(e + " has few parameters", e.getParameterCount() <= MOST_PARAMETERS);
        }
        long fields = Arrays.stream(c.getDeclaredFields()).filter(f -> !Modifier.isStatic(f.getModifiers())).count();
        Check.holds(c + " has few fields", fields <= MOST_FIELDS);
    }

    private static void staticFields(Class<?> c) {
        for (Field f : c.getDeclaredFields()) {
            if (Modifier.isStatic(f.getModifiers())) {
                Check.holds(f + " is a constant", Modifier.isFinal(f.getModifiers()) && f.getType() == int.class);
            }
        }
    }

    private static String source() throws Exception {
        return Files.readString(Path.of("src/main/java/SoupWall.java"));
    }

    /** Comments are taken out first: they may use the words. */
    private static String code() throws Exception {
        return source().replaceAll("(?s)/\\*.*?\\*/", "").replaceAll("//[^\n]*", "");
    }

    private static void words() throws Exception {
        String code = code();
        String[] banned = {"package", "import", "throw", "throws", "try", "catch", "synchronized", "assert", "Exact", "System",
            "Random", "Thread", "->", "::"};
        for (String word : banned) {
            String mark = Character.isLetter(word.charAt(0)) ? "\\b\\w*" + (word.equals("Exact") ? "" : "(?<!\\w)") + word + "\\b" : word;
            Check.holds("no '" + word + "' in the code", !Pattern.compile(mark).matcher(code).find());
        }
        Check.holds("texts hold signs 1 to 127 alone", source().chars().allMatch(c -> c < 128));
    }

    /** A method begins with its head at the margin of its class, and ends with a brace there. */
    private static void lengths() throws Exception {
        Matcher m = Pattern.compile("\n( {4}| {8})(\\w[^\n=]*\\) \\{)(\n.*?)\n\\1\\}\n", Pattern.DOTALL).matcher(source());
        int methods = 0;
        for (int from = 0; m.find(from); from = m.end() - 1) {
            methods++;
            Check.holds(m.group(2) + " is short", m.group(3).split("\n").length <= MOST_LINES);
        }
        int due = 0;
        for (Class<?> c : allClasses()) {
            due += c.getDeclaredMethods().length;
        }
        Check.due("methods and written constructors", due + 2, methods);
    }

    /** Calls make nothing: what a run makes does not grow with its calls. */
    private static void whereObjectsAreMade() throws Exception {
        for (String line : code().split("\n")) {
            if (line.contains("new ")) {
                boolean ahead = line.trim().startsWith("private ") || line.trim().equals("images[i] = new State();");
                Check.holds("made together with the object: " + line, ahead);
            }
        }
    }
}
