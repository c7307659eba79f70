/** What the tests share: it counts and prints answers that are not due, and feeds texts. */
final class Check {
    private static int wrong = 0;
    private static int count = 0;
    private static String heading = "";

    private Check() {
    }

    /** What the next answers are due for: it is printed ahead of those that are wrong. */
    static void under(String newHeading) {
        heading = newHeading;
    }

    /** How many answers have been looked at. */
    static int count() {
        return count;
    }

    static void due(String call, long want, long got) {
        count++;
        if (got != want) {
            wrong++;
            System.out.println(heading + call + " answered " + got + ", due is " + want);
        }
    }

    static void holds(String what, boolean so) {
        due(what, 1, so ? 1 : 0);
    }

    /** Ends the test's run: with exit code 1, if an answer was not the one that was due. */
    static void finish() {
        if (wrong != 0) {
            System.out.println(wrong + " answers are not as due");
            System.exit(1);
        }
    }

    static void feed(SoupWall x, String text) {
        for (int from = 0; from < text.length(); from += 8) {
            int n = Math.min(8, text.length() - from);
            x.feed(n, bytesOf(text.substring(from, from + n)));
        }
    }

    static long bytesOf(String text) {
        long bytes = 0;
        for (int i = 0; i < text.length(); i++) {
            bytes = bytes << 8 | text.charAt(i) & 255;
        }
        return bytes;
    }

    /** A new object whose text has become its wall. */
    static SoupWall wallOf(String text) {
        SoupWall x = new SoupWall();
        feed(x, text);
        holds("wall() of " + text, x.wall() >= 0);
        return x;
    }

    /** All that told, coin, column, fault and the seed answer, in one text: to see that nothing changed. */
    static String allOf(SoupWall x) {
        return stateOf(x) + x.fault();
    }

    /** The same, but for the fault. */
    static String stateOf(SoupWall x) {
        StringBuilder all = new StringBuilder();
        for (int what = 0; what <= 11; what++) {
            all.append(x.told(what)).append(' ');
        }
        int kinds = x.told(0);
        for (int k = 0; k < kinds; k++) {
            for (int what = 0; what <= 4; what++) {
                all.append(x.coin(k, what)).append(' ');
            }
        }
        int columns = x.told(1);
        for (int c = 0; c < columns; c++) {
            for (int what = 0; what <= 8; what++) {
                all.append(x.column(c, what)).append(' ');
            }
        }
        int seed = x.seed(0);
        x.seed(seed);
        return all.append(seed).append(' ').toString();
    }
}
