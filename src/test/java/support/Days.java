/** Days by draws, drawn here and sold by buy. */
final class Days {
    private Days() {
    }

    /** The seed behind one draw. */
    static long next(long seed) {
        return (seed * 1103515245L + 12345L) % 2147483648L;
    }

    /** drift(n) does the same; n is small enough for the 512 calls that an object is used for. */
    static void byHand(String wall, int seed, int n) {
        SoupWall x = Check.wallOf(wall);
        SoupWall y = Check.wallOf(wall);
        int columns = y.told(1);
        int kinds = y.told(0);
        x.seed(seed);
        long drawn = seed;
        int made = 0;
        for (int day = 0; day < n; day++) {
            drawn = next(drawn);
            y.damp((int) (drawn / 65536 % 4));
            for (int i = 0; i < 4; i++) {
                long c = next(drawn);
                long k = next(c);
                drawn = next(k);
                int paid = y.buy((int) (c / 65536 % columns), (int) (k / 65536 % kinds), (int) (drawn / 65536 % 6) + 1);
                made += paid == SoupWall.NOT ? 0 : 1;
            }
        }
        y.seed((int) drawn);
        Check.due("drift(" + n + ") from " + seed, made, x.drift(n));
        Check.holds("all is as by hand from " + seed, Check.allOf(x).equals(Check.allOf(y)));
    }
}
