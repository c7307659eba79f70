/** Promises 26 to 28 and what part 3 says of tries: attempt, fits, tear. */
final class RhythmsTold {
    private static final int NONE = SoupWall.NONE;

    private RhythmsTold() {
    }

    static void run() {
        tries();
        fitting();
        againstKicks();
        attempt();
        fits();
        tear();
    }

    private static void tries() {
        Doc.says(Doc.TERMS, "(10 at most):");
        SoupWall x = new SoupWall();
        for (int t = 1; t <= 10; t++) {
            Check.due("TRY " + t, t, x.attempt(0, 1, false));
        }
        Check.due("an eleventh", SoupWall.FULL, x.attempt(0, 1, false));
        Doc.says(Doc.TERMS, "a row of 1 to 8 kicks (bit k for kick k, 0 the first)");
        x = new SoupWall();
        x.attempt(0b10, 2, true);
        Check.due("l, then r: lr", 0b10, x.fits(2, 0));
        Check.due("r alone", 1, x.fits(1, 0));
        x.tear();
        x.attempt(0b00000001, 8, true);
        Check.due("r, then seven l: the first l would have done", 0, x.fits(1, NONE));
        Check.due("six l would have done at the seventh kick", 0, x.fits(6, NONE));
        x.tear();
        x.attempt(0b10000000, 8, true);
        Check.due("seven l, then r", 0b1, x.fits(1, 0));
        Check.due("five l, then r", 0b100000, x.fits(6, 0));
        x.tear();
        x.attempt(1, 1, true);
        Check.due("r", 1, x.fits(1, 0));
        Check.due("nothing of two", 0, x.fits(2, NONE));
        Doc.says(Doc.TERMS, "by which something came free just by its last kick,");
        x = new SoupWall();
        x.attempt(0b0110, 4, true);
        Check.due("l would have done at once", 0, x.fits(1, NONE));
        only(x, 2, 0b01);
        only(x, 3, 0b011);
        only(x, 4, 0b0110);
        Check.due("five are more than the TRY has", 0, x.fits(5, NONE));
        Check.due("six are more than the TRY has", 0, x.fits(6, NONE));
        Doc.says(Doc.TERMS, "or not at all.");
        x = new SoupWall();
        x.attempt(0b0110, 4, false);
        Check.due("neither l nor r", 0, x.fits(1, NONE));
        only(x, 2, 0b00);
        Check.due("all but lrr and rrl", 6, x.fits(3, NONE));
        Check.due("all but lrrl", 15, x.fits(4, NONE));
        Check.due("all of five", 32, x.fits(5, NONE));
    }

    private static void only(SoupWall x, int m, int row) {
        Check.due("how many of " + m, 1, x.fits(m, NONE));
        Check.due("the only one of " + m, row, x.fits(m, 0));
    }

    private static void fitting() {
        Doc.says(Doc.TERMS, "FITS of m (1 .. 6): rows of m kicks that could be its RHYTHM: how many;");
        SoupWall x = new SoupWall();
        for (int m = 1; m <= 6; m++) {
            Check.due("all of " + m, 1 << m, x.fits(m, NONE));
        }
        x.attempt(0b0000, 4, false);
        for (int m = 1; m <= 6; m++) {
            Check.due("all of " + m + " but l alone", m <= 4 ? (1 << m) - 1 : 1 << m, x.fits(m, NONE));
        }
        x.attempt(0b11, 2, true);
        Check.due("r would have done at once", 0, x.fits(1, NONE));
        only(x, 2, 0b11);
        x.attempt(0b1, 1, true);
        Check.due("rr is not r", 0, x.fits(2, NONE));
        Doc.says(Doc.TERMS, "the i-th by numbers (bit k for kick k).");
        x = new SoupWall();
        for (int m = 1; m <= 6; m++) {
            for (int i = 0; i < 1 << m; i++) {
                Check.due("the " + i + "-th of " + m, i, x.fits(m, i));
            }
        }
        x.attempt(0b1000, 4, false);
        int[] fit = {0b01, 0b11};
        Check.due("rl and rr: neither ll nor lr", 2, x.fits(2, NONE));
        Check.due("rl", fit[0], x.fits(2, 0));
        Check.due("rr", fit[1], x.fits(2, 1));
        int[] three = {0b001, 0b010, 0b011, 0b101, 0b110, 0b111};
        for (int i = 0; i < three.length; i++) {
            Check.due("neither lll nor llr", three[i], x.fits(3, i));
        }
    }

    /** For each rhythm and each row of kicks: what a wall with that rhythm does is a try that the rhythm fits. */
    private static void againstKicks() {
        for (int m = 1; m <= 6; m++) {
            for (int rhythm = 0; rhythm < 1 << m; rhythm += m > 4 ? 5 : 1) {
                SoupWall wall = Check.wallOf("coin 9 20 0;column 1 1 99 60;kick 0 " + letters(rhythm, m) + ";");
                wall.damp(9);
                wall.buy(0, 0, 2);
                wall.keep(0);
                for (int row = 0; row < 256; row += 37) {
                    wall.goBack(0);
                    tried(wall, rhythm, m, row);
                }
            }
        }
    }

    private static void tried(SoupWall wall, int rhythm, int m, int row) {
        int n = 0;
        int free = 0;
        while (n < 8 && free == 0) {
            free = wall.kick(0, row >> n & 1);
            n++;
        }
        SoupWall x = new SoupWall();
        x.attempt(row & (1 << n) - 1, n, free == 1);
        boolean found = false;
        for (int i = 0; i < x.fits(m, NONE); i++) {
            found |= x.fits(m, i) == rhythm;
        }
        Check.holds(letters(rhythm, m) + " fits what it did by row " + row, found);
        x.tear();
        x.attempt(row & (1 << n) - 1, n, free == 0);
        for (int i = 0; i < x.fits(m, NONE); i++) {
            Check.holds(letters(rhythm, m) + " does not fit what it did not by row " + row, x.fits(m, i) != rhythm);
        }
    }

    private static String letters(int row, int m) {
        StringBuilder s = new StringBuilder();
        for (int k = 0; k < m; k++) {
            s.append((row >> k & 1) == 0 ? 'l' : 'r');
        }
        return s.toString();
    }

    private static void attempt() {
        Doc.says(26, "A TRY: n kicks (1 .. 8), bits 0 to n less 1 of row;");
        for (int n = 1; n <= 8; n++) {
            SoupWall x = new SoupWall();
            Check.due("no bit of " + n, 1, x.attempt(0, n, false));
            Check.due("the last bit of " + n, 2, x.attempt(1 << n - 1, n, false));
            Check.due("all bits of " + n, 3, x.attempt((1 << n) - 1, n, false));
        }
        Doc.says(26, "it came free or not: how many.");
        SoupWall x = new SoupWall();
        Check.due("one", 1, x.attempt(1, 1, true));
        only(x, 1, 1);
        Check.due("two", 2, x.attempt(0, 1, false));
        only(x, 1, 1);
        Check.due("three", 3, x.attempt(1, 1, false));
        Check.due("none fits both", 0, x.fits(1, NONE));
        Check.due("told(10)", 3, x.told(10));
        Doc.says(26, "OUTSIDE (row 0 .. 2 to the n less 1),");
        for (int n = 1; n <= 8; n++) {
            Check.due("row above for " + n, SoupWall.OUTSIDE, x.attempt(1 << n, n, true));
            Check.due("row below for " + n, SoupWall.OUTSIDE, x.attempt(-1, n, true));
        }
        Check.due("n 0", SoupWall.OUTSIDE, x.attempt(0, 0, true));
        Check.due("n 9", SoupWall.OUTSIDE, x.attempt(0, 9, true));
        Check.due("n -1", SoupWall.OUTSIDE, x.attempt(0, -1, true));
        Check.due("n 32", SoupWall.OUTSIDE, x.attempt(0, 32, true));
        Check.due("told(10)", 3, x.told(10));
        Doc.says(26, "FULL (10).");
        for (int t = 4; t <= 10; t++) {
            Check.due("TRY " + t, t, x.attempt(1, 1, true));
        }
        Check.due("an eleventh", SoupWall.FULL, x.attempt(1, 1, true));
        Check.due("OUTSIDE ahead of it", SoupWall.OUTSIDE, x.attempt(2, 1, true));
        x.tear();
        Check.due("the first again", 1, x.attempt(1, 1, true));
        lastTryCounts();
    }

    private static void lastTryCounts() {
        SoupWall x = new SoupWall();
        for (int t = 0; t < 9; t++) {
            x.attempt(0, 1, false);
        }
        Check.due("r fits nine", 1, x.fits(1, NONE));
        x.attempt(1, 1, false);
        Check.due("nothing fits the tenth", 0, x.fits(1, NONE));
    }

    private static void fits() {
        Doc.says(27, "FITS (m 1 .. 6):");
        SoupWall x = new SoupWall();
        Check.due("m 1", 2, x.fits(1, NONE));
        Check.due("m 6", 64, x.fits(6, NONE));
        Doc.says(27, "i = NONE how many,");
        Check.due("-1 is NONE", 16, x.fits(4, -1));
        x.attempt(0, 8, true);
        Check.due("0 fit", 0, x.fits(4, NONE));
        x.tear();
        Doc.says(27, "else the i-th;");
        Check.due("the 0-th", 0, x.fits(6, 0));
        Check.due("the 63rd", 63, x.fits(6, 63));
        Doc.says(27, "NONE: not so many.");
        Check.due("the 64th", NONE, x.fits(6, 64));
        Check.due("the 2nd of 1", NONE, x.fits(1, 2));
        Check.due("the greatest", NONE, x.fits(6, Integer.MAX_VALUE));
        Check.due("the -2nd", NONE, x.fits(6, -2));
        Check.due("the least", NONE, x.fits(6, Integer.MIN_VALUE));
        x.attempt(0, 8, true);
        Check.due("the 0-th of none", NONE, x.fits(4, 0));
        Doc.says(27, "OUTSIDE.");
        Check.due("m 0", SoupWall.OUTSIDE, x.fits(0, NONE));
        Check.due("m 7", SoupWall.OUTSIDE, x.fits(7, NONE));
        Check.due("m -1", SoupWall.OUTSIDE, x.fits(-1, 0));
        Check.due("m 7, i below NONE", SoupWall.OUTSIDE, x.fits(7, -2));
        Check.due("m 32", SoupWall.OUTSIDE, x.fits(32, 0));
    }

    private static void tear() {
        Doc.says(28, "No BUYERS, no TRIES:");
        SoupWall x = Check.wallOf("coin 1 20 0;column 1 1 99 9;");
        x.buyer(0, 0, 1);
        x.attempt(0, 1, true);
        x.keep(0);
        x.tear();
        Check.due("BUYERS", 0, x.told(9));
        Check.due("TRIES", 0, x.told(10));
        Check.due("nobody comes", NONE, x.shortOn());
        Check.due("all fits", 2, x.fits(1, NONE));
        Check.due("IMAGES stay", 1, x.goBack(0));
        Check.due("they do not bring them back", 0, x.told(9) + x.told(10));
        Doc.says(28, "how many both had.");
        Check.due("none", 0, x.tear());
        for (int i = 0; i < 20; i++) {
            x.buyer(0, 0, 1);
            x.attempt(0, 1, true);
        }
        Check.due("8 and 10", 18, x.tear());
        Check.due("none again", 0, x.tear());
        x.attempt(0, 1, true);
        Check.due("a TRY alone", 1, x.tear());
        x.buyer(0, 0, 1);
        x.buyer(0, 0, 1);
        Check.due("two BUYERS alone", 2, x.tear());
        Check.due("a new object", 0, new SoupWall().tear());
    }
}
