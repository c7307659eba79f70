import java.lang.reflect.Constructor;
import java.lang.reflect.Field;
import java.lang.reflect.Method;
import java.lang.reflect.Modifier;
import java.nio.file.Files;
import java.nio.file.Path;
import java.util.Arrays;
import java.util.Set;
import java.util.TreeSet;
import java.util.stream.Collectors;

/** The public face, and those rules of LANGUAGE.md that a test can see. */
public final class FaceTest {
    private static final String FACE = "feed(int,long) wall() fault() told(int) coin(int,int) column(int,int) buy(int,int,int) "
            + "kick(int,int) damp(int) wear(int) stock(int,int) tube(int,int) price(int,int) span(int,int,int) wire(int,int) "
            + "drift(int) fewest(int,int) buyer(int,int,int) fill(int) shortOn() night(int) best(int) cheat(int) cheats() "
            + "attempt(int,int,boolean) fits(int,int) tear() seed(int) keep(int) goBack(int)";

    public static void main(String[] args) throws Exception {
        constants();
        members();
        source();
        Check.finish();
    }

    private static void constants() {
        Check.due("NONE", -1, SoupWall.NONE);
        Check.due("UNKNOWN", -1000000001, SoupWall.UNKNOWN);
        Check.due("OUTSIDE", -1000000002, SoupWall.OUTSIDE);
        Check.due("NOT", -1000000003, SoupWall.NOT);
        Check.due("FULL", -1000000004, SoupWall.FULL);
    }

    private static void members() {
        Set<String> seen = new TreeSet<>();
        Set<String> hidden = new TreeSet<>();
        for (Method m : SoupWall.class.getDeclaredMethods()) {
            if (Modifier.isPrivate(m.getModifiers())) {
                hidden.add(m.getName());
                continue;
            }
            Check.holds(m + " is public", Modifier.isPublic(m.getModifiers()) && !Modifier.isStatic(m.getModifiers()));
            Check.holds(m + " answers an int", m.getReturnType() == int.class);
            seen.add(m.getName() + Arrays.stream(m.getParameterTypes()).map(Class::getName)
                    .collect(Collectors.joining(",", "(", ")")));
        }
        Check.holds("the methods are those of the document: " + seen, seen.equals(new TreeSet<>(Arrays.asList(FACE.split(" ")))));
        for (String face : seen) {
            Check.holds("no private method is called as " + face, !hidden.contains(face.substring(0, face.indexOf('('))));
        }
        Set<String> fields = new TreeSet<>();
        for (Field f : SoupWall.class.getDeclaredFields()) {
            if (!Modifier.isPrivate(f.getModifiers())) {
                fields.add(f.getName());
            }
        }
        Check.holds("the constants are those of the document: " + fields,
                fields.equals(Set.of("NONE", "UNKNOWN", "OUTSIDE", "NOT", "FULL")));
        Constructor<?>[] constructors = SoupWall.class.getDeclaredConstructors();
        Check.due("constructors", 1, constructors.length);
        Check.holds("it is public", Modifier.isPublic(constructors[0].getModifiers()) && constructors[0].getParameterCount() == 0);
        Check.holds("the class is final", Modifier.isFinal(SoupWall.class.getModifiers()));
        Class<?>[] inside = SoupWall.class.getDeclaredClasses();
        Check.holds("at most twelve classes", inside.length < 12);
        for (Class<?> c : inside) {
            Check.holds(c + " is static", Modifier.isStatic(c.getModifiers()));
        }
    }

    /** Comments are taken out first: they may use the words. */
    private static void source() throws Exception {
        String source = Files.readString(Path.of("src/main/java/SoupWall.java"));
        String code = source.replaceAll("(?s)/\\*.*?\\*/", "").replaceAll("//[^\n]*", "");
        Check.holds("one file without package and imports", !code.contains("package ") && !code.contains("import "));
        String[] banned = {"throw", "throws", "try", "catch", "synchronized", "assert", "Exact", "System", "Random", "Thread", "->", "::"};
        for (String word : banned) {
            String mark = Character.isLetter(word.charAt(0)) ? "\\b\\w*" + (word.equals("Exact") ? "" : "(?<!\\w)") + word + "\\b" : word;
            Check.holds("no '" + word + "' in the code", !java.util.regex.Pattern.compile(mark).matcher(code).find());
        }
        Check.holds("texts hold signs 1 to 127 alone", source.chars().allMatch(c -> c < 128));
    }
}
