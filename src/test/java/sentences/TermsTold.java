/** What 'Terms' says ahead of the parts: numbers, sets and refusals. */
final class TermsTold {
    private static final int LEAST = Integer.MIN_VALUE;
    private static final int MOST = Integer.MAX_VALUE;

    private TermsTold() {
    }

    static void run() {
        words();
        numbers();
        sets();
        orderOfRefusals();
        unknown();
        outsideOfTheWall();
        outsideOfWhatIsTried();
        notNow();
        full();
        farBelow();
    }

    /** There is nothing in these to be looked at but that the words are there. */
    private static void words() {
        Doc.says(Doc.TERMS, "Words in capitals are told where they come first.");
        Check.due("told(0) of a new object", 0, new SoupWall().told(0));
    }

    private static void numbers() {
        Doc.says(Doc.TERMS, "All numbers are whole; / cuts towards 0.");
        for (int seed = 1; seed < 200; seed++) {
            long drawn = Days.next(seed);
            SoupWall x = Check.wallOf("coin 1 20 3;column 1 1 99 60;");
            x.seed(seed);
            x.drift(1);
            Check.due("DAMP drawn from " + seed, (drawn - drawn % 65536) / 65536 % 4, x.told(7));
        }
        Doc.says(Doc.TERMS, "What has a number has it from 0 on, as it comes.");
        SoupWall x = Check.wallOf("column 31 1 10 7;coin 41 70 1;slug 5;coin 42 80 2;column 32 5 90 8;slug 50;");
        Check.due("the first KIND", 41, x.coin(0, 0));
        Check.due("the second KIND", 42, x.coin(1, 0));
        Check.due("the first COLUMN", 31, x.column(0, 0));
        Check.due("the second COLUMN", 32, x.column(1, 0));
        Check.due("the first slug alone is within 1 to 10", 1, x.column(0, 8));
        Check.due("both slugs are within 5 to 90", 3, x.column(1, 8));
        Check.due("the first row that fits", 0, x.fits(1, 0));
        Check.due("the second row that fits", 1, x.fits(1, 1));
    }

    private static void sets() {
        Doc.says(Doc.TERMS, "A SET is a whole number, bit k for k.");
        SoupWall x = Check.wallOf("coin 1 11 0;coin 1 22 0;coin 1 33 0;coin 1 44 0;coin 1 55 0;"
                + "column 1 11 11 1;column 1 22 22 1;column 1 33 33 1;column 1 44 44 1;column 1 55 55 1;"
                + "slug 11;slug 22;slug 33;slug 44;slug 55;");
        for (int i = 0; i < 5; i++) {
            Check.due("COLUMNS that KIND " + i + " PASSES", 1 << i, x.coin(i, 4));
            Check.due("KINDS that PASS " + i, 1 << i, x.column(i, 7));
            Check.due("slugs that would " + i, 1 << i, x.column(i, 8));
            x.buyer(i, i, 1);
        }
        x.keep(0);
        x.buy(4, 4, 1);
        x.buy(1, 1, 1);
        Check.due("BUYERS who came", 1 << 4 | 1 << 1, x.night(1));
        Doc.says(Doc.TERMS, "NONE is -1.");
        Check.due("NONE", -1, SoupWall.NONE);
    }

    private static void orderOfRefusals() {
        Doc.says(Doc.TERMS, "REFUSALS, of several the first in this order:");
        Twins.refused("coin(4, 5)", SoupWall.UNKNOWN, x -> x.coin(4, 5));
        Twins.refused("column(3, 9)", SoupWall.UNKNOWN, x -> x.column(3, 9));
        Twins.refused("buy(3, 0, 0)", SoupWall.UNKNOWN, x -> x.buy(3, 0, 0));
        Twins.refused("buy(0, 4, 0)", SoupWall.UNKNOWN, x -> x.buy(0, 4, 0));
        Twins.refused("buy(0, 0, 0), jammed", SoupWall.OUTSIDE, x -> x.buy(0, 0, 0));
        Twins.refused("buy(0, 4, 1), jammed", SoupWall.UNKNOWN, x -> x.buy(0, 4, 1));
        Twins.refused("kick(3, 2)", SoupWall.UNKNOWN, x -> x.kick(3, 2));
        Twins.refused("kick(2, 2), not jammed", SoupWall.OUTSIDE, x -> x.kick(2, 2));
        Twins.refused("stock(3, 61)", SoupWall.UNKNOWN, x -> x.stock(3, 61));
        Twins.refused("tube(4, 61)", SoupWall.UNKNOWN, x -> x.tube(4, 61));
        Twins.refused("price(3, 100)", SoupWall.UNKNOWN, x -> x.price(3, 100));
        Twins.refused("span(3, 9, 8)", SoupWall.UNKNOWN, x -> x.span(3, 9, 8));
        Twins.refused("buyer(3, 0, 0), full", SoupWall.UNKNOWN, x -> x.buyer(3, 0, 0));
        Twins.refused("buyer(0, 4, 1), full", SoupWall.UNKNOWN, x -> x.buyer(0, 4, 1));
        Twins.refused("buyer(0, 0, 100), full", SoupWall.OUTSIDE, x -> x.buyer(0, 0, 100));
        Twins.refused("attempt(2, 1), full", SoupWall.OUTSIDE, x -> x.attempt(2, 1, true));
        Twins.refused("feed(9), full", SoupWall.OUTSIDE, x -> x.feed(9, 0));
        Check.due("drift(0) without KINDS", SoupWall.OUTSIDE, new SoupWall().drift(0));
        Check.due("drift(100) without KINDS", SoupWall.OUTSIDE, new SoupWall().drift(100));
        Check.due("night(2) without IMAGE 0", SoupWall.OUTSIDE, new SoupWall().night(2));
        Check.due("night(-1) without IMAGE 0", SoupWall.OUTSIDE, new SoupWall().night(-1));
        Check.due("goBack(2) of no IMAGE", SoupWall.UNKNOWN, new SoupWall().goBack(2));
    }

    private static void unknown() {
        Doc.says(Doc.TERMS, "UNKNOWN (a COLUMN, KIND, IMAGE that there is not),");
        for (int c : new int[] {LEAST, -2, -1, 3, 4, 5, MOST}) {
            Twins.refused("column(" + c + ", 0)", SoupWall.UNKNOWN, x -> x.column(c, 0));
            Twins.refused("buy(" + c + ", 0, 1)", SoupWall.UNKNOWN, x -> x.buy(c, 0, 1));
            Twins.refused("kick(" + c + ", 0)", SoupWall.UNKNOWN, x -> x.kick(c, 0));
            Twins.refused("stock(" + c + ", 0)", SoupWall.UNKNOWN, x -> x.stock(c, 0));
            Twins.refused("price(" + c + ", 1)", SoupWall.UNKNOWN, x -> x.price(c, 1));
            Twins.refused("span(" + c + ", 1, 1)", SoupWall.UNKNOWN, x -> x.span(c, 1, 1));
            Twins.refused("wire(" + c + ", 0)", SoupWall.UNKNOWN, x -> x.wire(c, 0));
            Twins.refused("wire(0, " + c + ")", SoupWall.UNKNOWN, x -> x.wire(0, c));
            Twins.refused("fewest(" + c + ", 0)", SoupWall.UNKNOWN, x -> x.fewest(c, 0));
            Twins.refused("buyer(" + c + ", 0, 1)", SoupWall.UNKNOWN, x -> x.buyer(c, 0, 1));
            Twins.refused("cheat(" + c + ")", SoupWall.UNKNOWN, x -> x.cheat(c));
        }
        for (int k : new int[] {LEAST, -2, -1, 4, 5, MOST}) {
            Twins.refused("coin(" + k + ", 0)", SoupWall.UNKNOWN, x -> x.coin(k, 0));
            Twins.refused("buy(0, " + k + ", 1)", SoupWall.UNKNOWN, x -> x.buy(0, k, 1));
            Twins.refused("tube(" + k + ", 0)", SoupWall.UNKNOWN, x -> x.tube(k, 0));
            Twins.refused("buyer(0, " + k + ", 1)", SoupWall.UNKNOWN, x -> x.buyer(0, k, 1));
        }
        for (int k : new int[] {LEAST, -2, 4, 5, MOST}) {
            Twins.refused("fewest(0, " + k + ")", SoupWall.UNKNOWN, x -> x.fewest(0, k));
            Twins.refused("fill(" + k + ")", SoupWall.UNKNOWN, x -> x.fill(k));
        }
        for (int i : new int[] {LEAST, -1, 2, MOST}) {
            Twins.refused("keep(" + i + ")", SoupWall.UNKNOWN, x -> x.keep(i));
            Twins.refused("goBack(" + i + ")", SoupWall.UNKNOWN, x -> x.goBack(i));
        }
    }

    private static void outsideOfTheWall() {
        Doc.says(Doc.TERMS, "OUTSIDE (another number out of its bounds),");
        for (int n : new int[] {LEAST, -1, 0, 9, MOST}) {
            Twins.refused("feed(" + n + ")", SoupWall.OUTSIDE, x -> x.feed(n, 0));
        }
        for (int over : new int[] {LEAST, -1, 0, 100, MOST}) {
            Twins.refused("buy(0, 0, " + over + ")", SoupWall.OUTSIDE, x -> x.buy(0, 0, over));
            Twins.refused("buyer(0, 0, " + over + ")", SoupWall.OUTSIDE, x -> x.buyer(0, 0, over));
            Twins.refused("price(0, " + over + ")", SoupWall.OUTSIDE, x -> x.price(0, over));
            Twins.refused("span(0, " + over + ", 99)", SoupWall.OUTSIDE, x -> x.span(0, over, 99));
            Twins.refused("span(0, 1, " + over + ")", SoupWall.OUTSIDE, x -> x.span(0, 1, over));
            Twins.refused("span(0, " + over + " twice)", SoupWall.OUTSIDE, x -> x.span(0, over, over));
            Twins.refused("drift(" + over + ")", SoupWall.OUTSIDE, x -> x.drift(over));
        }
        for (int over : new int[] {LEAST, -1, 61, MOST}) {
            Twins.refused("stock(0, " + over + ")", SoupWall.OUTSIDE, x -> x.stock(0, over));
            Twins.refused("tube(0, " + over + ")", SoupWall.OUTSIDE, x -> x.tube(0, over));
        }
        for (int over : new int[] {LEAST, -1, 10, MOST}) {
            Twins.refused("damp(" + over + ")", SoupWall.OUTSIDE, x -> x.damp(over));
            Twins.refused("wear(" + over + ")", SoupWall.OUTSIDE, x -> x.wear(over));
        }
        for (int side : new int[] {LEAST, -1, 2, MOST}) {
            Twins.refused("kick(0, " + side + ")", SoupWall.OUTSIDE, x -> x.kick(0, side));
        }
    }

    private static void outsideOfWhatIsTried() {
        for (int over : new int[] {LEAST, -1, 12, MOST}) {
            Twins.refused("told(" + over + ")", SoupWall.OUTSIDE, x -> x.told(over));
            Twins.refused("coin(0, " + over + ")", SoupWall.OUTSIDE, x -> x.coin(0, over));
            Twins.refused("column(0, " + over + ")", SoupWall.OUTSIDE, x -> x.column(0, over));
            Twins.refused("night(" + over + ")", SoupWall.OUTSIDE, x -> x.night(over));
            Twins.refused("best(" + over + ")", SoupWall.OUTSIDE, x -> x.best(over));
        }
        for (int over : new int[] {LEAST, -1, 0, 9, 31, 32, 33, MOST}) {
            Twins.refused("attempt(0, " + over + ")", SoupWall.OUTSIDE, x -> x.attempt(0, over, true));
            Twins.refused("fits(" + over + ", 0)", SoupWall.OUTSIDE, x -> x.fits(over, 0));
        }
        for (int over : new int[] {LEAST, -1, 2, MOST}) {
            Twins.refused("attempt(" + over + ", 1)", SoupWall.OUTSIDE, x -> x.attempt(over, 1, false));
        }
        Twins.refused("seed(-1)", SoupWall.OUTSIDE, x -> x.seed(-1));
        Twins.refused("seed of the least number", SoupWall.OUTSIDE, x -> x.seed(LEAST));
    }

    private static void notNow() {
        Doc.says(Doc.TERMS, "NOT (not now, as told),");
        Twins.refused("buy of a jammed one", SoupWall.NOT, x -> x.buy(0, 1, 2));
        Twins.refused("buy with what does not pass", SoupWall.NOT, x -> x.buy(2, 2, 1));
        Twins.refused("kick of one that is not jammed", SoupWall.NOT, x -> x.kick(1, 0));
        Twins.refused("goBack of what was not kept", SoupWall.NOT, x -> x.goBack(1));
        Check.due("night without IMAGE 0", SoupWall.NOT, new SoupWall().night(0));
        Check.due("drift without KINDS, COLUMNS", SoupWall.NOT, new SoupWall().drift(1));
    }

    private static void full() {
        Doc.says(Doc.TERMS, "FULL.");
        Twins.refused("feed(2) to 401", SoupWall.FULL, x -> x.feed(2, 0));
        Twins.refused("feed(8) to 407", SoupWall.FULL, x -> x.feed(8, -1));
        Twins.refused("a ninth buyer", SoupWall.FULL, x -> x.buyer(0, 0, 1));
        Twins.refused("an eleventh try", SoupWall.FULL, x -> x.attempt(0, 1, true));
    }

    private static void farBelow() {
        Doc.says(Doc.TERMS, "They are far below all that is counted: -1000000001 and on.");
        Check.due("UNKNOWN", -1000000001, SoupWall.UNKNOWN);
        Check.due("OUTSIDE", -1000000002, SoupWall.OUTSIDE);
        Check.due("NOT", -1000000003, SoupWall.NOT);
        Check.due("FULL", -1000000004, SoupWall.FULL);
        Doc.says(Doc.TERMS, "What is refused changes nothing.");
        SoupWall x = Twins.busy();
        Twins.Call[] calls = {y -> y.feed(2, 0), y -> y.coin(4, 0), y -> y.column(0, 9), y -> y.buy(0, 1, 2), y -> y.kick(1, 0),
            y -> y.damp(10), y -> y.wear(-1), y -> y.stock(0, 61), y -> y.tube(0, -1), y -> y.price(0, 0), y -> y.span(0, 3, 2),
            y -> y.wire(0, 3), y -> y.drift(100), y -> y.buyer(0, 0, 1), y -> y.attempt(0, 1, true), y -> y.seed(-1),
            y -> y.keep(2), y -> y.goBack(1)};
        for (int i = 0; i < calls.length; i++) {
            Check.holds("call " + i + " is refused", calls[i].on(x) <= SoupWall.UNKNOWN);
        }
        Check.holds("all of them together change nothing", Twins.goOn(x).equals(Twins.goOn(Twins.busy())));
    }
}
