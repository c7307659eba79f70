/** Promises 18 to 28: what is tried from now, and nothing changes by it. */
public final class TriedTest {
    private static final String WALL = "coin 1 20 3;coin 5 30 2;coin 10 40 0;"
            + "column 7 15 35 4;column 12 25 45 2;column 3 18 22 9;slug 33;slug 50;";

    public static void main(String[] args) {
        fewestCoins();
        fewestFirstRow();
        fewestEdges();
        buyersTold();
        fills();
        fillEdges();
        shortDays();
        nights();
        nightsWithSeveralSets();
        bestSpans();
        cheating();
        triesTold();
        rhythmsThatFit();
        tearing();
        nothingChanges();
        Check.finish();
    }

    private static void fewestCoins() {
        SoupWall x = Check.wallOf(WALL);
        Check.due("fewest(0, NONE)", 2, x.fewest(0, SoupWall.NONE));
        Check.due("fewest(0, 0)", 0, x.fewest(0, 0));
        Check.due("fewest(0, 1)", 2, x.fewest(0, 1));
        Check.due("a kind that does not pass", 0, x.fewest(0, 2));
        Check.due("fewest(1, NONE)", 2, x.fewest(1, SoupWall.NONE));
        Check.due("fewest(1, 1)", 1, x.fewest(1, 1));
        Check.due("fewest(1, 2)", 1, x.fewest(1, 2));
        Check.due("no such column", SoupWall.UNKNOWN, x.fewest(3, 0));
        Check.due("no such kind", SoupWall.UNKNOWN, x.fewest(0, 3));
        Check.due("no such kind", SoupWall.UNKNOWN, x.fewest(0, -2));
        x.stock(0, 0);
        Check.due("goods are not looked at", 2, x.fewest(0, SoupWall.NONE));
        x.damp(9);
        x.stock(2, 9);
        x.buy(2, 0, 3);
        Check.due("jams are not looked at", 3, x.fewest(2, SoupWall.NONE));
        x.wire(0, 1);
        Check.due("at its own price", 2, x.fewest(0, SoupWall.NONE));
        x.wear(6);
        Check.due("no kind passes", SoupWall.NONE, x.fewest(2, SoupWall.NONE));
        Check.due("no kind passes", SoupWall.NONE, x.fewest(2, 0));
    }

    private static void fewestFirstRow() {
        SoupWall x = Check.wallOf("coin 5 20 0;coin 10 21 0;coin 15 22 0;column 20 1 99 9;");
        Check.due("two coins", 2, x.fewest(0, SoupWall.NONE));
        Check.due("5 and 15 come ahead of 10 and 10", 1, x.fewest(0, 0));
        Check.due("5 and 15 come ahead of 10 and 10", 0, x.fewest(0, 1));
        Check.due("5 and 15 come ahead of 10 and 10", 1, x.fewest(0, 2));
        x = Check.wallOf("coin 20 20 0;coin 5 21 1;coin 1 22 0;column 15 1 99 9;");
        Check.due("one coin, 5 back", 1, x.fewest(0, 0));
        x.tube(1, 0);
        Check.due("no 5 to give: three coins", 3, x.fewest(0, SoupWall.NONE));
        Check.due("three of 5", 3, x.fewest(0, 1));
    }

    private static void fewestEdges() {
        SoupWall x = Check.wallOf("coin 1 20 0;column 8 1 99 9;column 9 1 99 9;");
        Check.due("eight coins", 8, x.fewest(0, SoupWall.NONE));
        Check.due("nine are too many", SoupWall.NONE, x.fewest(1, SoupWall.NONE));
        Check.due("nine are too many", SoupWall.NONE, x.fewest(1, 0));
        x = Check.wallOf("coin 7 20 0;column 9 1 99 9;");
        Check.due("own coins only come back whole", SoupWall.NONE, x.fewest(0, SoupWall.NONE));
        x = Check.wallOf("coin 7 20 0;coin 4 21 1;coin 3 22 9;column 1 20 20 9;");
        Check.due("greedy change: 6 is 4 and stamps, 13 is 7, 4 and stamps",
                SoupWall.NONE, x.fewest(0, SoupWall.NONE));
        x.tube(1, 0);
        Check.due("without the 4, 6 is 3 and 3", 1, x.fewest(0, SoupWall.NONE));
    }

    private static void buyersTold() {
        SoupWall x = Check.wallOf(WALL);
        Check.due("no such column", SoupWall.UNKNOWN, x.buyer(3, 0, 0));
        Check.due("no such kind", SoupWall.UNKNOWN, x.buyer(0, 3, 0));
        Check.due("no coins", SoupWall.OUTSIDE, x.buyer(0, 0, 0));
        Check.due("too many coins", SoupWall.OUTSIDE, x.buyer(0, 0, 100));
        for (int i = 1; i <= 8; i++) {
            Check.due("buyer " + i, i, x.buyer(0, 2, 99));
        }
        Check.due("a ninth", SoupWall.FULL, x.buyer(0, 0, 1));
        Check.due("OUTSIDE ahead of FULL", SoupWall.OUTSIDE, x.buyer(0, 0, 0));
        Check.due("UNKNOWN ahead of FULL", SoupWall.UNKNOWN, x.buyer(5, 0, 1));
        Check.due("told(9)", 8, x.told(9));
    }

    private static void fills() {
        SoupWall x = Check.wallOf(WALL);
        Check.due("without buyers", 0, x.fill(SoupWall.NONE));
        Check.due("without buyers", 0, x.fill(2));
        x.buyer(0, 1, 2);
        Check.due("there is enough", 0, x.fill(SoupWall.NONE));
        x.buyer(1, 1, 3);
        x.buyer(2, 0, 3);
        x.buyer(0, 0, 7);
        Check.due("three", 3, x.fill(SoupWall.NONE));
        Check.due("three of 1", 3, x.fill(0));
        Check.due("none of 5", 0, x.fill(1));
        Check.due("no such kind", SoupWall.UNKNOWN, x.fill(3));
        Check.due("no such kind", SoupWall.UNKNOWN, x.fill(-2));
        x.damp(2);
        x.buyer(0, 1, 2);
        Check.due("the column jams on the way", SoupWall.NONE, x.fill(SoupWall.NONE));
        Check.due("the column jams on the way", SoupWall.NONE, x.fill(1));
    }

    private static void fillEdges() {
        SoupWall x = Check.wallOf("coin 1 20 0;coin 10 21 0;column 5 1 99 9;column 4 1 99 9;");
        x.buyer(0, 1, 1);
        Check.due("five coins", 5, x.fill(0));
        x.tear();
        x.buyer(1, 1, 1);
        Check.due("six are too many", SoupWall.NONE, x.fill(0));
        x = Check.wallOf("coin 2 20 0;coin 2 21 0;coin 10 22 0;column 8 1 99 9;");
        x.buyer(0, 2, 1);
        Check.due("like ones: the first kind", 1, x.fill(0));
        Check.due("like ones: the first kind", 0, x.fill(1));
        x = Check.wallOf("coin 1 20 60;coin 99 22 0;column 38 1 99 9;");
        x.buyer(0, 1, 1);
        Check.due("a full tube takes no more", SoupWall.NONE, x.fill(SoupWall.NONE));
        x = Check.wallOf("coin 1 20 0;coin 10 21 0;column 1 1 99 1;");
        x.buyer(0, 0, 1);
        x.buyer(0, 0, 1);
        Check.due("the second finds no goods", SoupWall.NONE, x.fill(SoupWall.NONE));
    }

    private static void shortDays() {
        SoupWall x = Check.wallOf(WALL);
        Check.due("without buyers", SoupWall.NONE, x.shortOn());
        x.buyer(2, 0, 3);
        Check.due("nine goods", 10, x.shortOn());
        x.stock(2, 60);
        Check.due("sixty goods", 61, x.shortOn());
        x.damp(1);
        Check.due("it jams on the fourth", 5, x.shortOn());
        x.stock(2, 0);
        Check.due("no goods at all", 1, x.shortOn());
        x.stock(2, 60);
        x.damp(0);
        x.buyer(1, 1, 3);
        Check.due("two goods of the other", 3, x.shortOn());
        x.buyer(1, 1, 3);
        Check.due("two a day", 2, x.shortOn());
        x.buyer(0, 2, 9);
        Check.due("one never passes", 1, x.shortOn());
    }

    private static void nights() {
        SoupWall x = Check.wallOf(WALL);
        x.buyer(0, 1, 2);
        x.buyer(1, 1, 3);
        x.buyer(2, 0, 3);
        x.buyer(0, 0, 7);
        Check.due("not kept", SoupWall.NOT, x.night(0));
        Check.due("OUTSIDE ahead of NOT", SoupWall.OUTSIDE, x.night(2));
        Check.due("OUTSIDE", SoupWall.OUTSIDE, x.night(-1));
        x.keep(1);
        Check.due("image 1 is not image 0", SoupWall.NOT, x.night(0));
        x.keep(0);
        Check.due("nobody came", 1, x.night(0));
        Check.due("nobody came", 0, x.night(1));
        x.buy(1, 1, 3);
        x.buy(2, 0, 3);
        Check.due("one set", 1, x.night(0));
        Check.due("the second and the third", 6, x.night(1));
        x.damp(9);
        x.wear(9);
        x.price(1, 50);
        x.span(2, 90, 91);
        x.wire(0, 1);
        Check.due("prices, spans, wires, damp and wear are those of the image", 6, x.night(1));
        x.tube(2, 1);
        Check.due("tubes count", 0, x.night(0));
        Check.due("tubes count", 0, x.night(1));
        x.tube(2, 0);
        x.stock(0, 3);
        Check.due("goods count", 0, x.night(0));
    }

    private static void nightsWithSeveralSets() {
        SoupWall x = Check.wallOf("coin 1 20 60;coin 9 21 0;column 1 1 99 9;column 9 1 99 9;");
        x.buyer(0, 0, 1);
        x.buyer(1, 1, 1);
        x.buyer(0, 0, 1);
        x.buyer(0, 0, 1);
        x.keep(0);
        x.buy(0, 0, 1);
        x.buy(0, 0, 1);
        x.buy(1, 1, 1);
        Check.due("two of three", 3, x.night(0));
        Check.due("only the second is sure", 2, x.night(1));
        x.goBack(0);
        x.stock(0, 8);
        Check.due("lost coins count", 0, x.night(0));
        x = Check.wallOf("coin 2 20 0;column 1 1 99 9;");
        x.buyer(0, 0, 1);
        x.keep(0);
        x.stock(0, 8);
        x.tube(0, 1);
        Check.due("stamps count", 0, x.night(0));
        x.goBack(0);
        x.buy(0, 0, 1);
        Check.due("the same by a sale", 1, x.night(0));
        x = Check.wallOf("coin 1 20 0;column 1 1 99 1;");
        x.buyer(0, 0, 1);
        x.buyer(0, 0, 1);
        x.keep(0);
        x.buy(0, 0, 1);
        Check.due("a sale that is not made does not count as one that came", 2, x.night(0));
        Check.due("none is sure", 0, x.night(1));
    }

    private static void bestSpans() {
        SoupWall x = Check.wallOf(WALL);
        best(x, 20, 30, 2);
        x.wear(5);
        best(x, 15, 25, 2);
        Check.due("best(3)", SoupWall.OUTSIDE, x.best(3));
        Check.due("best(-1)", SoupWall.OUTSIDE, x.best(-1));
        best(Check.wallOf("slug 7;column 1 5 6 1;"), -1, -1, -1);
        best(new SoupWall(), -1, -1, -1);
        best(Check.wallOf("coin 1 20 0;coin 1 24 0;coin 1 50 0;coin 1 52 0;slug 30;"), 50, 52, 2);
        best(Check.wallOf("coin 1 52 0;coin 1 50 0;coin 1 24 0;coin 1 22 0;slug 30;"), 22, 24, 2);
        best(Check.wallOf("coin 1 99 0;coin 1 10 0;coin 1 10 0;"), 10, 99, 3);
        best(Check.wallOf("coin 1 20 0;coin 1 20 0;coin 1 21 0;slug 21;slug 19;"), 20, 20, 2);
        best(Check.wallOf("coin 1 20 0;slug 20;slug 1;"), 2, 2, 0);
        SoupWall worn = Check.wallOf("coin 1 10 0;");
        worn.wear(9);
        best(worn, 1, 1, 1);
    }

    private static void best(SoupWall x, int a, int b, int kinds) {
        Check.due("best(0)", a, x.best(0));
        Check.due("best(1)", b, x.best(1));
        Check.due("best(2)", kinds, x.best(2));
    }

    private static void cheating() {
        SoupWall x = Check.wallOf(WALL);
        Check.due("no wall", SoupWall.NONE, new SoupWall().cheats());
        Check.due("nothing is crossed", SoupWall.NONE, x.cheats());
        Check.due("its own", 0, x.cheat(0));
        x.wire(1, 2);
        Check.due("below 0", -9, x.cheat(1));
        Check.due("none above 0", SoupWall.NONE, x.cheats());
        x.price(1, 2);
        Check.due("1 is above 0", 1, x.cheats());
        x.price(1, 12);
        x.wire(2, 0);
        Check.due("cheat(2)", 4, x.cheat(2));
        Check.due("cheats()", 2, x.cheats());
        x.wire(0, 1);
        Check.due("cheats()", 0, x.cheats());
        x.price(1, 11);
        Check.due("like ones: the least column", 0, x.cheats());
        x.price(0, 8);
        Check.due("now the other", 2, x.cheats());
        Check.due("no such column", SoupWall.UNKNOWN, x.cheat(3));
        Check.due("no such column", SoupWall.UNKNOWN, x.cheat(-1));
    }

    private static void triesTold() {
        SoupWall x = new SoupWall();
        Check.due("n 0", SoupWall.OUTSIDE, x.attempt(0, 0, true));
        Check.due("n 9", SoupWall.OUTSIDE, x.attempt(0, 9, true));
        Check.due("n 40", SoupWall.OUTSIDE, x.attempt(0, 40, true));
        Check.due("row below", SoupWall.OUTSIDE, x.attempt(-1, 3, true));
        Check.due("row above", SoupWall.OUTSIDE, x.attempt(8, 3, true));
        Check.due("the greatest row", 1, x.attempt(7, 3, true));
        Check.due("the greatest row", 2, x.attempt(255, 8, false));
        for (int i = 3; i <= 10; i++) {
            Check.due("attempt " + i, i, x.attempt(0, 1, false));
        }
        Check.due("an eleventh", SoupWall.FULL, x.attempt(0, 1, false));
        Check.due("OUTSIDE ahead of FULL", SoupWall.OUTSIDE, x.attempt(2, 1, false));
        Check.due("told(10)", 10, x.told(10));
    }

    private static void rhythmsThatFit() {
        SoupWall x = new SoupWall();
        Check.due("m 0", SoupWall.OUTSIDE, x.fits(0, 0));
        Check.due("m 7", SoupWall.OUTSIDE, x.fits(7, 0));
        Check.due("m 0, i below NONE", SoupWall.OUTSIDE, x.fits(0, -2));
        Check.due("there is no i-th below NONE", SoupWall.NONE, x.fits(1, -2));
        Check.due("there is no i-th below NONE", SoupWall.NONE, x.fits(6, -2147483648));
        Check.due("all of 6", 64, x.fits(6, SoupWall.NONE));
        Check.due("the last of 6", 63, x.fits(6, 63));
        Check.due("not so many", SoupWall.NONE, x.fits(6, 64));
        Check.due("not so many", SoupWall.NONE, x.fits(6, 2147483647));
        x.attempt(0b0110, 4, true);
        Check.due("l at the end, but l came first", 0, x.fits(1, SoupWall.NONE));
        Check.due("rl", 1, x.fits(2, SoupWall.NONE));
        Check.due("rl", 1, x.fits(2, 0));
        Check.due("rrl", 3, x.fits(3, 0));
        Check.due("lrrl", 6, x.fits(4, 0));
        Check.due("five are longer than the try", 0, x.fits(5, SoupWall.NONE));
        x.attempt(0b01, 2, false);
        Check.due("rl did not free it", 0, x.fits(2, SoupWall.NONE));
        Check.due("rrl still fits", 1, x.fits(3, SoupWall.NONE));
        x.tear();
        x.attempt(0, 8, false);
        Check.due("all but lll", 7, x.fits(3, SoupWall.NONE));
        Check.due("the first is rll", 1, x.fits(3, 0));
        Check.due("the last is rrr", 7, x.fits(3, 6));
        Check.due("not so many", SoupWall.NONE, x.fits(3, 7));
    }

    private static void tearing() {
        SoupWall x = Check.wallOf(WALL);
        Check.due("nothing to tear", 0, x.tear());
        x.buyer(0, 0, 1);
        x.buyer(0, 0, 1);
        x.attempt(0, 1, true);
        Check.due("both", 3, x.tear());
        Check.due("told(9)", 0, x.told(9));
        Check.due("told(10)", 0, x.told(10));
        Check.due("a buyer again", 1, x.buyer(0, 0, 1));
        Check.due("a try again", 1, x.attempt(0, 1, true));
    }

    private static void nothingChanges() {
        SoupWall x = Check.wallOf(WALL);
        x.damp(2);
        x.keep(0);
        x.buy(0, 1, 2);
        x.buyer(2, 0, 3);
        x.buyer(0, 1, 2);
        x.attempt(3, 2, true);
        String before = Check.allOf(x);
        x.fewest(0, 0);
        x.fill(0);
        x.shortOn();
        x.night(0);
        x.night(1);
        x.best(0);
        x.cheat(0);
        x.cheats();
        x.fits(2, 0);
        Check.holds("nothing changes by what is tried", before.equals(Check.allOf(x)));
        Check.due("the image stays as well", 1, x.goBack(0));
        Check.due("the image stays as well", 0, x.told(6));
    }
}
