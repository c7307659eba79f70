import java.io.IOException;
import java.nio.file.Files;
import java.nio.file.Path;

/**
 * ../shared/DOC.md as the tests hold it: each test names the words that it is for, and at the end
 * all words of the terms, of the parts 1 to 3 and of the promises must have been named by one.
 */
final class Doc {
    /** The number of what stands ahead of the promises: the terms and the parts 1 to 3. */
    static final int TERMS = 0;
    private static final int PROMISES = 31;
    private static final String TEXT = read();
    private static final String[] SECTIONS = new String[PROMISES + 1];
    private static final boolean[][] HELD = new boolean[PROMISES + 1][];
    private static int checksBefore = -1;

    private Doc() {
    }

    /** From here on the checks are those of these words, which must stand in that promise. */
    static void says(int promise, String words) {
        closeLatest();
        Check.under((promise == TERMS ? "Terms" : "Promise " + promise) + ", '" + words + "': ");
        int at = firstNotHeld(promise, words);
        Check.holds("the document says so", at >= 0);
        for (int i = at; at >= 0 && i < at + words.length(); i++) {
            HELD[promise][i] = true;
        }
        checksBefore = Check.count();
    }

    /** Every word must be held by some test; headings, signatures and the list of calls tell nothing to hold. */
    static void allIsHeld() {
        closeLatest();
        Check.under("");
        for (int promise = 0; promise <= PROMISES; promise++) {
            String section = section(promise);
            StringBuilder left = new StringBuilder();
            for (int i = 0; i < section.length(); i++) {
                left.append(HELD[promise][i] ? ' ' : section.charAt(i));
            }
            String words = left.toString().replaceAll("[^A-Za-z0-9]+", " ").trim();
            Check.holds("no test is for these words of " + promise + ": " + words, words.isEmpty());
        }
    }

    /** The public face, as Java has it. */
    static String face() {
        return between("\n```java\n", "\n```");
    }

    private static void closeLatest() {
        if (checksBefore >= 0 && Check.count() == checksBefore) {
            Check.holds("something is looked at for these words", false);
        }
        checksBefore = -1;
    }

    /** The same words may stand there twice: then each of them has its own test. */
    private static int firstNotHeld(int promise, String words) {
        String section = section(promise);
        int first = section.indexOf(words);
        for (int at = first; at >= 0; at = section.indexOf(words, at + 1)) {
            if (!HELD[promise][at]) {
                return at;
            }
        }
        return first;
    }

    private static String section(int promise) {
        if (SECTIONS[promise] == null) {
            SECTIONS[promise] = promise == TERMS ? terms() : promise(promise);
            HELD[promise] = new boolean[SECTIONS[promise].length()];
        }
        return SECTIONS[promise];
    }

    private static String terms() {
        String part = between("\n## Terms\n", "\nAhead of the calls");
        return inOneLine(part.replaceAll("```(text)?", " ").replace("========", " "));
    }

    private static String promise(int number) {
        String part = between("\n## Promise " + number + ":", "\n## ");
        return inOneLine(part.substring(part.indexOf("`:") + 2));
    }

    private static String between(String start, String end) {
        int from = TEXT.indexOf(start);
        if (from < 0) {
            return "";
        }
        int to = TEXT.indexOf(end, from + start.length());
        return TEXT.substring(from + start.length(), to < 0 ? TEXT.length() : to);
    }

    private static String inOneLine(String part) {
        return part.replaceAll("\\s+", " ").trim();
    }

    private static String read() {
        try {
            return Files.readString(Path.of("../shared/DOC.md"));
        } catch (IOException cannotRead) {
            return "";
        }
    }
}
