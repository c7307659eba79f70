/** Part 3 as far as coins and buyers go, and promises 18 to 21: fewest, buyer, fill, shortOn. */
final class FewestTold {
    private static final int NONE = SoupWall.NONE;

    private FewestTold() {
    }

    static void run() {
        nothingChanges();
        whichCoins();
        changeInFull();
        fewestFirst();
        notLookedAt();
        fewest();
        buyersInTheirOrder();
        filling();
        fillingFirst();
        fillingNone();
        shortDays();
        buyer();
        fill();
        shortOn();
    }

    private static void nothingChanges() {
        Doc.says(Doc.TERMS, "3 TRIED from now; nothing changes by it.");
        Twins.Call[] calls = {x -> x.fewest(0, NONE), x -> x.fewest(1, 2), x -> x.fill(NONE), x -> x.fill(1), x -> x.shortOn(),
            x -> x.night(0), x -> x.night(1), x -> x.best(0), x -> x.best(1), x -> x.best(2), x -> x.cheat(1), x -> x.cheats(),
            x -> x.fits(2, NONE), x -> x.fits(3, 1)};
        SoupWall all = Twins.busy();
        for (int i = 0; i < calls.length; i++) {
            SoupWall x = Twins.busy();
            int first = calls[i].on(x);
            Check.due("call " + i + " again", first, calls[i].on(x));
            Check.holds("call " + i + " changes nothing", Twins.goOn(x).equals(Twins.goOn(Twins.busy())));
            Check.due("call " + i + " behind the others", first, calls[i].on(all));
        }
        Check.holds("all of them change nothing", Twins.goOn(all).equals(Twins.goOn(Twins.busy())));
    }

    private static void whichCoins() {
        Doc.says(Doc.TERMS, "FEWEST coins for a COLUMN: of the KINDS that PASS it,");
        SoupWall x = Check.wallOf("coin 10 20 0;coin 5 30 0;coin 1 40 0;column 10 30 40 0;column 10 20 20 0;column 10 50 60 0;");
        row(x, 0, 2, 0, 2, 0);
        row(x, 1, 1, 1, 0, 0);
        row(x, 2, NONE, NONE, NONE, NONE);
        x.span(0, 31, 39);
        row(x, 0, NONE, NONE, NONE, NONE);
        x.wear(1);
        row(x, 0, NONE, NONE, NONE, NONE);
        x.price(0, 8);
        row(x, 0, 8, 0, 0, 8);
        Doc.says(Doc.TERMS, "8 coins at most in all,");
        x = Check.wallOf("coin 1 20 0;coin 2 30 0;column 8 20 20 0;column 9 20 20 0;column 16 1 99 0;column 17 1 99 0;");
        row(x, 0, 8, 8, 0);
        row(x, 1, NONE, NONE, NONE);
        row(x, 2, 8, 0, 8);
        row(x, 3, NONE, NONE, NONE);
        Doc.says(Doc.TERMS, "put in together, at PRICE or more,");
        x = Check.wallOf("coin 3 20 0;coin 4 20 0;column 7 1 99 0;column 14 1 99 0;column 1 1 99 0;");
        row(x, 0, 2, 1, 1);
        row(x, 1, 4, 2, 2);
        x.tube(0, 1);
        row(x, 2, 1, 0, 1);
    }

    private static void changeInFull() {
        Doc.says(Doc.TERMS, "so that (all of them in their TUBES) CHANGE is told without STAMPS:");
        SoupWall x = Check.wallOf("coin 20 20 0;coin 5 21 1;coin 1 22 0;column 15 1 99 9;");
        row(x, 0, 1, 1, 0, 0);
        x.tube(1, 0);
        row(x, 0, 3, 0, 3, 0);
        x = Check.wallOf("coin 7 20 0;coin 4 21 1;coin 3 22 9;column 1 20 20 9;");
        row(x, 0, NONE, NONE, NONE, NONE);
        x.tube(1, 0);
        row(x, 0, 1, 1, 0, 0);
        x.tube(2, 1);
        row(x, 0, NONE, NONE, NONE, NONE);
        x = Check.wallOf("coin 2 20 0;coin 6 21 0;coin 5 22 0;column 9 1 99 9;");
        row(x, 0, 3, 2, 0, 1);
        x = Check.wallOf("coin 50 20 60;coin 1 21 60;column 1 20 20 9;column 1 1 99 9;");
        row(x, 0, 1, 1, 0);
        row(x, 1, 1, 1, 0);
        x.tube(1, 48);
        row(x, 0, NONE, NONE, NONE);
        row(x, 1, 1, 0, 1);
        x.tube(1, 49);
        row(x, 0, 1, 1, 0);
    }

    private static void fewestFirst() {
        Doc.says(Doc.TERMS, "the fewest;");
        SoupWall x = Check.wallOf("coin 1 20 0;coin 2 20 0;coin 3 20 0;coin 4 20 0;coin 5 20 0;"
                + "column 5 1 99 9;column 40 1 99 9;column 41 1 99 9;column 99 1 99 9;column 39 1 99 9;");
        row(x, 0, 1, 0, 0, 0, 0, 1);
        row(x, 1, 8, 0, 0, 0, 0, 8);
        row(x, 2, NONE, NONE, NONE, NONE, NONE, NONE);
        row(x, 3, NONE, NONE, NONE, NONE, NONE, NONE);
        row(x, 4, 8, 0, 0, 0, 1, 7);
        Doc.says(Doc.TERMS, "of like ones the first row (KIND by KIND the more of it first);");
        x.price(0, 6);
        row(x, 0, 2, 1, 0, 0, 0, 1);
        x.price(0, 12);
        row(x, 0, 3, 0, 1, 0, 0, 2);
        x.price(0, 38);
        row(x, 0, 8, 0, 0, 1, 0, 7);
        x = Check.wallOf("coin 10 20 0;coin 5 21 0;coin 15 22 0;column 20 1 99 9;");
        row(x, 0, 2, 2, 0, 0);
        x = Check.wallOf("coin 5 20 0;coin 10 21 0;coin 15 22 0;column 20 1 99 9;");
        row(x, 0, 2, 1, 0, 1);
        x = Check.wallOf("coin 9 20 0;coin 9 20 0;column 18 1 99 9;");
        row(x, 0, 2, 2, 0);
        Doc.says(Doc.TERMS, "NONE.");
        row(Check.wallOf("coin 7 20 0;column 9 1 99 9;"), 0, NONE, NONE);
        row(Check.wallOf("coin 2 20 60;column 9 1 99 9;"), 0, NONE, NONE);
        row(Check.wallOf("column 9 1 99 9;"), 0, NONE);
    }

    private static void notLookedAt() {
        Doc.says(Doc.TERMS, "(It is not JAMMED or not, GOODS or not: that is not looked at.)");
        SoupWall x = Check.wallOf("coin 1 20 0;column 3 1 99 1;column 5 1 99 0;");
        row(x, 0, 3, 3);
        row(x, 1, 5, 5);
        x.damp(9);
        x.buy(0, 0, 3);
        Check.due("JAMMED, no GOODS", 1, x.column(0, 5));
        row(x, 0, 3, 3);
        x.wire(0, 1);
        row(x, 0, 3, 3);
    }

    private static void row(SoupWall x, int c, int total, int... coins) {
        Check.due("fewest(" + c + ", NONE)", total, x.fewest(c, NONE));
        for (int k = 0; k < coins.length; k++) {
            Check.due("fewest(" + c + ", " + k + ")", coins[k], x.fewest(c, k));
        }
    }

    private static void fewest() {
        Doc.says(18, "FEWEST coins: k = NONE how many,");
        SoupWall x = Check.wallOf("coin 1 20 0;coin 5 20 0;coin 9 50 0;column 7 1 40 1;column 9 60 99 1;");
        Check.due("5, 1, 1", 3, x.fewest(0, NONE));
        Check.due("-1 is NONE", 3, x.fewest(0, -1));
        Doc.says(18, "else how many of a KIND;");
        Check.due("of 1", 2, x.fewest(0, 0));
        Check.due("of 5", 1, x.fewest(0, 1));
        Check.due("of what does not pass", 0, x.fewest(0, 2));
        Doc.says(18, "NONE.");
        Check.due("how many", NONE, x.fewest(1, NONE));
        Check.due("of 1", NONE, x.fewest(1, 0));
        Check.due("of the last", NONE, x.fewest(1, 2));
        Doc.says(18, "UNKNOWN.");
        Check.due("COLUMN 2", SoupWall.UNKNOWN, x.fewest(2, NONE));
        Check.due("COLUMN -1", SoupWall.UNKNOWN, x.fewest(-1, NONE));
        Check.due("KIND 3", SoupWall.UNKNOWN, x.fewest(0, 3));
        Check.due("KIND -2", SoupWall.UNKNOWN, x.fewest(0, -2));
        Check.due("KIND 3, none there", SoupWall.UNKNOWN, x.fewest(1, 3));
        Check.due("KIND 5 of five", SoupWall.UNKNOWN, Check.wallOf("coin 1 20 0;".repeat(5) + "column 1 1 99 0;").fewest(0, 5));
        Check.due("KIND 4 of five", 0, Check.wallOf("coin 1 20 0;".repeat(5) + "column 1 1 99 0;").fewest(0, 4));
        Check.due("KIND 0 of none", SoupWall.UNKNOWN, Check.wallOf("column 1 1 99 0;").fewest(0, 0));
    }

    private static void buyersInTheirOrder() {
        Doc.says(Doc.TERMS, "BUYERS (8 at most):");
        SoupWall x = Check.wallOf("coin 1 20 0;coin 5 20 0;column 1 1 99 60;column 4 1 99 60;");
        for (int b = 1; b <= 8; b++) {
            Check.due("BUYER " + b, b, x.buyer(0, 0, 1));
        }
        Check.due("a ninth", SoupWall.FULL, x.buyer(0, 0, 1));
        Doc.says(Doc.TERMS, "a SALE each, one behind the other.");
        x.tear();
        x.buyer(0, 0, 1);
        x.buyer(1, 1, 1);
        Check.due("the 1 of the first is there for the second", 0, x.fill(NONE));
        x.tear();
        x.buyer(1, 1, 1);
        x.buyer(0, 0, 1);
        Check.due("the other way round it comes too late", 1, x.fill(NONE));
        x.tear();
        x.stock(0, 1);
        x.buyer(0, 0, 1);
        x.buyer(0, 0, 1);
        Check.due("GOODS are gone for the second", NONE, x.fill(NONE));
    }

    private static void filling() {
        Doc.says(Doc.TERMS, "FILL: the fewest coins,");
        SoupWall x = Check.wallOf("coin 1 20 0;coin 5 20 0;coin 20 20 0;column 5 1 99 60;column 10 1 99 60;column 9 1 99 60;");
        x.buyer(0, 2, 1);
        filled(x, 3, 0, 3, 0);
        x.tear();
        x.buyer(2, 2, 1);
        filled(x, 3, 1, 2, 0);
        x.tube(0, 9);
        x.tube(1, 1);
        filled(x, 0, 0, 0, 0);
        Doc.says(Doc.TERMS, "5 at most,");
        x = Check.wallOf("coin 1 20 0;coin 10 20 0;column 5 1 99 60;column 4 1 99 60;");
        x.buyer(0, 1, 1);
        filled(x, 5, 5, 0);
        x.tear();
        x.buyer(1, 1, 1);
        filled(x, NONE, NONE, NONE);
        x.tube(0, 1);
        filled(x, 5, 5, 0);
        Doc.says(Doc.TERMS, "that are put into TUBES ahead of all,");
        x.tear();
        x.tube(0, 0);
        x.buyer(0, 1, 1);
        x.buyer(0, 0, 5);
        filled(x, 5, 5, 0);
        Check.due("the TUBE is as it was", 0, x.coin(0, 3));
        x = Check.wallOf("coin 1 20 59;coin 99 22 0;column 39 1 99 9;column 38 1 99 9;");
        x.buyer(0, 1, 1);
        filled(x, 1, 1, 0);
        x.tear();
        x.buyer(1, 1, 1);
        filled(x, NONE, NONE, NONE);
    }

    private static void fillingFirst() {
        Doc.says(Doc.TERMS, "so that each BUYER's SALE is made without STAMPS: how many;");
        SoupWall x = Check.wallOf("coin 2 20 0;coin 5 20 0;column 3 1 99 60;column 1 1 99 60;");
        filled(x, 0, 0, 0);
        x.buyer(0, 1, 1);
        filled(x, 1, 1, 0);
        x.buyer(0, 1, 1);
        filled(x, 2, 2, 0);
        x.buyer(1, 1, 1);
        filled(x, 4, 4, 0);
        x.buyer(1, 0, 1);
        filled(x, NONE, NONE, NONE);
        Doc.says(Doc.TERMS, "of like ones the first row (KIND by KIND the more of it first);");
        x = Check.wallOf("coin 2 20 0;coin 2 21 0;coin 10 22 0;column 8 1 99 9;column 6 1 99 9;");
        x.buyer(0, 2, 1);
        filled(x, 1, 1, 0, 0);
        x.buyer(1, 2, 1);
        filled(x, 3, 3, 0, 0);
        x = Check.wallOf("coin 90 22 0;coin 3 20 0;coin 1 21 0;coin 2 20 0;column 86 1 99 9;");
        x.buyer(0, 0, 1);
        filled(x, 2, 0, 1, 1, 0);
        x.price(0, 85);
        filled(x, 2, 0, 1, 0, 1);
        x.price(0, 87);
        filled(x, 1, 0, 1, 0, 0);
        x = Check.wallOf("coin 90 22 0;coin 1 20 0;coin 2 21 0;coin 3 20 0;coin 4 20 0;column 85 1 99 9;");
        x.buyer(0, 0, 1);
        filled(x, 2, 0, 1, 0, 0, 1);
        x.price(0, 71);
        filled(x, 5, 0, 0, 0, 1, 4);
        x.price(0, 70);
        filled(x, 5, 0, 0, 0, 0, 5);
        x.price(0, 69);
        filled(x, NONE, NONE, NONE, NONE, NONE, NONE);
    }

    private static void fillingNone() {
        Doc.says(Doc.TERMS, "NONE. SHORT:");
        SoupWall x = Check.wallOf("coin 1 20 0;column 1 1 40 2;column 1 50 60 9;");
        x.buyer(0, 0, 1);
        filled(x, 0, 0);
        x.damp(9);
        x.buyer(0, 0, 1);
        filled(x, 0, 0);
        x.stock(0, 9);
        x.buyer(0, 0, 1);
        filled(x, NONE, NONE);
        x.damp(0);
        filled(x, 0, 0);
        x.buyer(1, 0, 1);
        filled(x, NONE, NONE);
        x.tear();
        x.price(0, 2);
        x.buyer(0, 0, 1);
        filled(x, NONE, NONE);
    }

    private static void filled(SoupWall x, int total, int... coins) {
        Check.due("fill(NONE)", total, x.fill(NONE));
        for (int k = 0; k < coins.length; k++) {
            Check.due("fill(" + k + ")", coins[k], x.fill(k));
        }
    }

    private static void shortDays() {
        Doc.says(Doc.TERMS, "each day all BUYERS come");
        SoupWall x = Check.wallOf("coin 1 20 0;column 1 1 40 9;column 1 1 40 60;");
        x.buyer(0, 0, 1);
        Check.due("9 GOODS, one a day", 10, x.shortOn());
        x.buyer(0, 0, 1);
        Check.due("9 GOODS, two a day", 5, x.shortOn());
        x.buyer(0, 0, 1);
        Check.due("9 GOODS, three a day", 4, x.shortOn());
        x.stock(0, 8);
        Check.due("8 GOODS, three a day", 3, x.shortOn());
        Doc.says(Doc.TERMS, "(DAMP as now, nobody kicks):");
        x.tear();
        x.buyer(0, 0, 1);
        x.stock(0, 60);
        Check.due("DAMP 0", 61, x.shortOn());
        x.damp(1);
        Check.due("JAMMED behind the tenth day", 11, x.shortOn());
        x.damp(9);
        Check.due("JAMMED behind the second day", 3, x.shortOn());
        x.buy(0, 0, 1);
        Check.due("STICK 9 ahead", 2, x.shortOn());
        x.buy(0, 0, 1);
        Check.due("JAMMED from the beginning", 1, x.shortOn());
        Doc.says(Doc.TERMS, "the first day (1 to 99) on which some SALE is not made;");
        x = Check.wallOf("coin 1 20 0;coin 5 20 0;column 1 1 40 60;column 5 1 40 60;");
        x.buyer(0, 0, 1);
        Check.due("60 GOODS", 61, x.shortOn());
        x.buyer(1, 1, 1);
        x.stock(1, 7);
        Check.due("7 GOODS of the other", 8, x.shortOn());
        x.stock(1, 0);
        Check.due("the first day", 1, x.shortOn());
        x.stock(1, 60);
        x.buyer(1, 0, 4);
        Check.due("4 is too little on any day", 1, x.shortOn());
        x.tear();
        x.buyer(0, 1, 1);
        Check.due("STAMPS do not matter", 61, x.shortOn());
        Doc.says(Doc.TERMS, "NONE. NIGHT:");
        x.tear();
        Check.due("nobody goes without", NONE, x.shortOn());
    }

    private static void buyer() {
        Doc.says(19, "A BUYER: how many.");
        SoupWall x = Check.wallOf("coin 1 20 0;coin 5 60 0;column 1 1 40 0;column 9 1 40 9;");
        Check.due("one", 1, x.buyer(1, 0, 9));
        Check.due("one who cannot buy", 2, x.buyer(0, 1, 1));
        Check.due("one with 99", 3, x.buyer(0, 0, 99));
        Check.due("told(9)", 3, x.told(9));
        Check.due("nothing is sold", 0, x.told(6));
        Doc.says(19, "UNKNOWN,");
        Check.due("COLUMN 2", SoupWall.UNKNOWN, x.buyer(2, 0, 1));
        Check.due("COLUMN -1", SoupWall.UNKNOWN, x.buyer(-1, 0, 1));
        Check.due("KIND 2", SoupWall.UNKNOWN, x.buyer(0, 2, 1));
        Check.due("KIND -1", SoupWall.UNKNOWN, x.buyer(0, -1, 1));
        Doc.says(19, "OUTSIDE (n 1 .. 99),");
        Check.due("n 0", SoupWall.OUTSIDE, x.buyer(0, 0, 0));
        Check.due("n 100", SoupWall.OUTSIDE, x.buyer(0, 0, 100));
        Check.due("n -1", SoupWall.OUTSIDE, x.buyer(0, 0, -1));
        Check.due("UNKNOWN ahead of it", SoupWall.UNKNOWN, x.buyer(0, 2, 0));
        Check.due("told(9)", 3, x.told(9));
        Check.due("n 1", 4, x.buyer(0, 0, 1));
        Check.due("n 99", 5, x.buyer(0, 0, 99));
        Doc.says(19, "FULL (8).");
        Check.due("the sixth", 6, x.buyer(0, 0, 1));
        Check.due("the seventh", 7, x.buyer(0, 0, 1));
        Check.due("the eighth", 8, x.buyer(0, 0, 1));
        Check.due("the ninth", SoupWall.FULL, x.buyer(0, 0, 1));
        Check.due("OUTSIDE ahead of it", SoupWall.OUTSIDE, x.buyer(0, 0, 0));
        Check.due("UNKNOWN ahead of it", SoupWall.UNKNOWN, x.buyer(2, 0, 1));
        x.tear();
        Check.due("the first again", 1, x.buyer(0, 0, 1));
    }

    private static void fill() {
        Doc.says(20, "FILL: k = NONE how many,");
        SoupWall x = Check.wallOf("coin 1 20 0;coin 5 20 0;coin 9 20 0;column 2 1 40 9;");
        x.buyer(0, 2, 1);
        Check.due("5, 1, 1", 3, x.fill(NONE));
        Check.due("-1 is NONE", 3, x.fill(-1));
        Doc.says(20, "else how many of a KIND;");
        Check.due("of 1", 2, x.fill(0));
        Check.due("of 5", 1, x.fill(1));
        Check.due("of 9", 0, x.fill(2));
        Doc.says(20, "NONE.");
        x.stock(0, 0);
        Check.due("how many", NONE, x.fill(NONE));
        Check.due("of 1", NONE, x.fill(0));
        Check.due("of 9", NONE, x.fill(2));
        Doc.says(20, "UNKNOWN.");
        Check.due("KIND 3", SoupWall.UNKNOWN, x.fill(3));
        Check.due("KIND -2", SoupWall.UNKNOWN, x.fill(-2));
        Check.due("KIND 5 of five", SoupWall.UNKNOWN, Check.wallOf("coin 1 20 0;".repeat(5)).fill(5));
        Check.due("KIND 4 of five", 0, Check.wallOf("coin 1 20 0;".repeat(5)).fill(4));
        Check.due("KIND 0 of none", SoupWall.UNKNOWN, Check.wallOf("column 1 1 99 0;").fill(0));
        Check.due("how many of none", 0, Check.wallOf("column 1 1 99 0;").fill(NONE));
    }

    private static void shortOn() {
        Doc.says(21, "SHORT;");
        SoupWall x = Check.wallOf("coin 1 20 0;column 1 1 40 4;");
        x.buyer(0, 0, 1);
        Check.due("the fifth day", 5, x.shortOn());
        x.buy(0, 0, 1);
        Check.due("from now on: the fourth", 4, x.shortOn());
        Doc.says(21, "NONE (without BUYERS, too).");
        x.tear();
        Check.due("without BUYERS", NONE, x.shortOn());
        x.stock(0, 0);
        Check.due("without BUYERS and GOODS", NONE, x.shortOn());
        Check.due("a new object", NONE, new SoupWall().shortOn());
    }
}
