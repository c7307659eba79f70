/** Promises 8 to 17: what is done; and what part 3 says of days by draws. */
final class DoneTold {
    private static final String WALL = "coin 1 20 3;coin 5 30 2;coin 10 40 0;"
            + "column 7 15 35 4;column 12 25 45 2;column 3 18 22 9;kick 0 lr;kick 1 r;";

    private DoneTold() {
    }

    static void run() {
        buying();
        buyingRefused();
        kicking();
        damping();
        wearing();
        stocking();
        filling();
        pricing();
        spanning();
        wiring();
        draws();
        daysByDraws();
        drifting();
        driftingRefused();
    }

    private static void buying() {
        Doc.says(8, "A SALE: CHANGE that is told in coins.");
        SoupWall x = Check.wallOf(WALL);
        Check.due("10 for 7: three of 1", 3, x.buy(0, 1, 2));
        Check.due("20 for 12: 5, and 3 STAMPS", 5, x.buy(1, 2, 2));
        Check.due("STAMPS", 3, x.told(5));
        Check.due("15 for 7: 5, and 3 STAMPS", 5, x.buy(0, 1, 3));
        Check.due("STAMPS", 6, x.told(5));
        Check.due("3 for 3: none", 0, x.buy(2, 0, 3));
        x.tube(0, 0);
        x.tube(1, 0);
        x.tube(2, 0);
        Check.due("20 for 12: nothing that is not too much", 0, x.buy(1, 2, 2));
        Check.due("8 STAMPS more", 14, x.told(5));
        Check.due("SALES", 5, x.told(6));
    }

    private static void buyingRefused() {
        Doc.says(8, "UNKNOWN,");
        SoupWall x = Check.wallOf(WALL);
        Check.due("COLUMN 3", SoupWall.UNKNOWN, x.buy(3, 0, 7));
        Check.due("COLUMN -1", SoupWall.UNKNOWN, x.buy(-1, 0, 7));
        Check.due("KIND 3", SoupWall.UNKNOWN, x.buy(0, 3, 7));
        Check.due("KIND -1", SoupWall.UNKNOWN, x.buy(0, -1, 7));
        Check.due("ahead of OUTSIDE", SoupWall.UNKNOWN, x.buy(0, 3, 100));
        Check.due("a new object", SoupWall.UNKNOWN, new SoupWall().buy(0, 0, 1));
        Doc.says(8, "OUTSIDE (n 1 .. 99),");
        Check.due("n 0", SoupWall.OUTSIDE, x.buy(2, 0, 0));
        Check.due("n -1", SoupWall.OUTSIDE, x.buy(2, 0, -1));
        Check.due("n 100", SoupWall.OUTSIDE, x.buy(2, 0, 100));
        Check.due("n 99", 70, x.buy(2, 0, 99));
        x.price(0, 5);
        Check.due("n 1", 0, x.buy(0, 1, 1));
        Check.due("ahead of NOT", SoupWall.OUTSIDE, x.buy(0, 2, 100));
        Doc.says(8, "NOT: it is not made.");
        String before = Check.allOf(x);
        Check.due("it does not pass", SoupWall.NOT, x.buy(0, 2, 99));
        Check.due("too little", SoupWall.NOT, x.buy(0, 0, 4));
        Check.holds("nothing changes", before.equals(Check.allOf(x)));
        x.stock(0, 0);
        Check.due("no GOODS", SoupWall.NOT, x.buy(0, 0, 5));
        x.stock(0, 9);
        x.damp(2);
        x.buy(0, 0, 5);
        before = Check.allOf(x);
        Check.due("JAMMED", SoupWall.NOT, x.buy(0, 0, 5));
        Check.holds("nothing changes", before.equals(Check.allOf(x)));
    }

    private static void kicking() {
        Doc.says(9, "A KICK (side 0, 1):");
        SoupWall x = Check.wallOf(WALL);
        x.damp(9);
        x.buy(0, 1, 2);
        x.buy(1, 1, 3);
        Check.due("side 0", 0, x.kick(0, 0));
        Doc.says(9, "1 it is free,");
        Check.due("side 1: lr", 1, x.kick(0, 1));
        Check.due("STICK", 0, x.column(0, 4));
        Doc.says(9, "0 not yet.");
        Check.due("l is not r", 0, x.kick(1, 0));
        Check.due("STICK stays", 27, x.column(1, 4));
        Doc.says(9, "UNKNOWN,");
        Check.due("COLUMN 3", SoupWall.UNKNOWN, x.kick(3, 0));
        Check.due("COLUMN -1", SoupWall.UNKNOWN, x.kick(-1, 0));
        Check.due("ahead of OUTSIDE", SoupWall.UNKNOWN, x.kick(3, 2));
        Doc.says(9, "OUTSIDE,");
        Check.due("side 2", SoupWall.OUTSIDE, x.kick(1, 2));
        Check.due("side -1", SoupWall.OUTSIDE, x.kick(1, -1));
        Check.due("ahead of NOT", SoupWall.OUTSIDE, x.kick(0, 2));
        Doc.says(9, "NOT: it is not JAMMED.");
        Check.due("it was freed", SoupWall.NOT, x.kick(0, 0));
        Check.due("it never was", SoupWall.NOT, x.kick(2, 0));
        x.damp(3);
        x.buy(2, 0, 3);
        Check.due("STICK 9", SoupWall.NOT, x.kick(2, 0));
        x.damp(1);
        x.tube(0, 9);
        x.price(2, 1);
        x.buy(2, 0, 1);
        Check.due("STICK 10", 1, x.kick(2, 0));
    }

    private static void damping() {
        Doc.says(10, "DAMP becomes v (0 .. 9): what it was.");
        SoupWall x = new SoupWall();
        int was = 0;
        for (int v : new int[] {9, 0, 1, 8, 8, 0}) {
            Check.due("damp(" + v + ")", was, x.damp(v));
            Check.due("DAMP", v, x.told(7));
            was = v;
        }
        Doc.says(10, "OUTSIDE.");
        x.damp(5);
        Check.due("damp(10)", SoupWall.OUTSIDE, x.damp(10));
        Check.due("damp(-1)", SoupWall.OUTSIDE, x.damp(-1));
        Check.due("DAMP stays", 5, x.told(7));
    }

    private static void wearing() {
        Doc.says(11, "WORN becomes v (0 .. 9): what it was.");
        SoupWall x = Check.wallOf(WALL);
        int was = 0;
        for (int v : new int[] {9, 0, 1, 8, 8, 0}) {
            Check.due("wear(" + v + ")", was, x.wear(v));
            Check.due("WORN", v, x.told(8));
            Check.due("WEIGHT NOW", 20 - v, x.coin(0, 2));
            was = v;
        }
        Doc.says(11, "OUTSIDE.");
        x.wear(5);
        Check.due("wear(10)", SoupWall.OUTSIDE, x.wear(10));
        Check.due("wear(-1)", SoupWall.OUTSIDE, x.wear(-1));
        Check.due("WORN stays", 5, x.told(8));
    }

    private static void stocking() {
        Doc.says(12, "GOODS of a COLUMN become n (0 .. 60): what they were.");
        SoupWall x = Check.wallOf("column 7 15 35 4;" + "column 7 15 35 9;".repeat(4));
        Check.due("stock(0, 60)", 4, x.stock(0, 60));
        Check.due("stock(0, 0)", 60, x.stock(0, 0));
        Check.due("stock(0, 1)", 0, x.stock(0, 1));
        Check.due("stock(4, 59)", 9, x.stock(4, 59));
        Check.due("GOODS of 0", 1, x.column(0, 3));
        Check.due("GOODS of 1", 9, x.column(1, 3));
        Check.due("GOODS of 4", 59, x.column(4, 3));
        x.wire(0, 1);
        Check.due("not of that to which it is WIRED", 1, x.stock(0, 2));
        Doc.says(12, "UNKNOWN,");
        Check.due("COLUMN 5", SoupWall.UNKNOWN, x.stock(5, 1));
        Check.due("COLUMN -1", SoupWall.UNKNOWN, x.stock(-1, 1));
        Check.due("ahead of OUTSIDE", SoupWall.UNKNOWN, x.stock(5, 61));
        Doc.says(12, "OUTSIDE.");
        Check.due("n 61", SoupWall.OUTSIDE, x.stock(0, 61));
        Check.due("n -1", SoupWall.OUTSIDE, x.stock(0, -1));
        Check.due("GOODS stay", 2, x.column(0, 3));
    }

    private static void filling() {
        Doc.says(13, "Coins in the TUBE of a KIND become n (0 .. 60): what they were.");
        SoupWall x = Check.wallOf("coin 2 20 4;" + "coin 3 20 9;".repeat(4));
        Check.due("tube(0, 60)", 4, x.tube(0, 60));
        Check.due("tube(0, 0)", 60, x.tube(0, 0));
        Check.due("tube(0, 1)", 0, x.tube(0, 1));
        Check.due("tube(4, 59)", 9, x.tube(4, 59));
        Check.due("TUBE 0", 1, x.coin(0, 3));
        Check.due("TUBE 1", 9, x.coin(1, 3));
        Check.due("TUBE 4", 59, x.coin(4, 3));
        Check.due("nothing is LOST", 0, x.told(4));
        Doc.says(13, "UNKNOWN,");
        Check.due("KIND 5", SoupWall.UNKNOWN, x.tube(5, 1));
        Check.due("KIND -1", SoupWall.UNKNOWN, x.tube(-1, 1));
        Check.due("ahead of OUTSIDE", SoupWall.UNKNOWN, x.tube(5, 61));
        Doc.says(13, "OUTSIDE.");
        Check.due("n 61", SoupWall.OUTSIDE, x.tube(0, 61));
        Check.due("n -1", SoupWall.OUTSIDE, x.tube(0, -1));
        Check.due("the TUBE stays", 1, x.coin(0, 3));
        Check.due("nothing is LOST", 0, x.told(4));
    }

    private static void pricing() {
        Doc.says(14, "PRICE of a COLUMN becomes v (1 .. 99): what it was.");
        SoupWall x = Check.wallOf("coin 1 20 0;column 7 15 35 4;" + "column 8 15 35 9;".repeat(4));
        Check.due("price(0, 99)", 7, x.price(0, 99));
        Check.due("price(0, 1)", 99, x.price(0, 1));
        Check.due("price(4, 2)", 8, x.price(4, 2));
        Check.due("PRICE of 0", 1, x.column(0, 0));
        Check.due("PRICE of 1", 8, x.column(1, 0));
        Check.due("PRICE of 4", 2, x.column(4, 0));
        Check.due("one coin is enough", 0, x.buy(0, 0, 1));
        Doc.says(14, "UNKNOWN,");
        Check.due("COLUMN 5", SoupWall.UNKNOWN, x.price(5, 1));
        Check.due("COLUMN -1", SoupWall.UNKNOWN, x.price(-1, 1));
        Check.due("ahead of OUTSIDE", SoupWall.UNKNOWN, x.price(5, 0));
        Doc.says(14, "OUTSIDE.");
        Check.due("v 0", SoupWall.OUTSIDE, x.price(0, 0));
        Check.due("v 100", SoupWall.OUTSIDE, x.price(0, 100));
        Check.due("v -1", SoupWall.OUTSIDE, x.price(0, -1));
        Check.due("PRICE stays", 1, x.column(0, 0));
    }

    private static void spanning() {
        Doc.says(15, "The SPAN of a COLUMN becomes a to b (1 .. 99, b not below a):");
        SoupWall x = Check.wallOf("column 7 15 35 4;" + "column 8 16 36 9;".repeat(4));
        x.span(0, 1, 99);
        Check.due("A", 1, x.column(0, 1));
        Check.due("B", 99, x.column(0, 2));
        x.span(4, 7, 7);
        Check.due("A of 4", 7, x.column(4, 1));
        Check.due("B of 4", 7, x.column(4, 2));
        Check.due("A of 1", 16, x.column(1, 1));
        Check.due("B of 1", 36, x.column(1, 2));
        Doc.says(15, "100 times A and B as they were.");
        Check.due("1 to 99", 199, x.span(0, 99, 99));
        Check.due("99 to 99", 9999, x.span(0, 1, 1));
        Check.due("1 to 1", 101, x.span(0, 20, 30));
        Check.due("20 to 30", 2030, x.span(0, 20, 30));
        Check.due("16 to 36", 1636, x.span(1, 1, 2));
        Doc.says(15, "UNKNOWN,");
        Check.due("COLUMN 5", SoupWall.UNKNOWN, x.span(5, 1, 2));
        Check.due("COLUMN -1", SoupWall.UNKNOWN, x.span(-1, 1, 2));
        Check.due("ahead of OUTSIDE", SoupWall.UNKNOWN, x.span(5, 0, 100));
        Doc.says(15, "OUTSIDE.");
        Check.due("a 0", SoupWall.OUTSIDE, x.span(0, 0, 2));
        Check.due("both 0", SoupWall.OUTSIDE, x.span(0, 0, 0));
        Check.due("b 100", SoupWall.OUTSIDE, x.span(0, 1, 100));
        Check.due("both 100", SoupWall.OUTSIDE, x.span(0, 100, 100));
        Check.due("a 100", SoupWall.OUTSIDE, x.span(0, 100, 99));
        Check.due("b below a", SoupWall.OUTSIDE, x.span(0, 3, 2));
        Check.due("b 0", SoupWall.OUTSIDE, x.span(0, 1, 0));
        Check.due("the SPAN stays", 2030, x.span(0, 20, 30));
    }

    private static void wiring() {
        Doc.says(16, "The BUTTON of a COLUMN is WIRED to another one (or its own):");
        SoupWall x = Check.wallOf("column 7 15 35 4;".repeat(5));
        x.wire(0, 4);
        Check.due("to another one", 4, x.column(0, 6));
        x.wire(4, 0);
        Check.due("to another one", 0, x.column(4, 6));
        x.wire(0, 0);
        Check.due("to its own", 0, x.column(0, 6));
        Check.due("others stay", 1, x.column(1, 6));
        x.wire(1, 0);
        Check.due("two to the same", 0, x.column(1, 6));
        Doc.says(16, "to which it was.");
        Check.due("0 was to its own", 0, x.wire(0, 3));
        Check.due("0 was to 3", 3, x.wire(0, 3));
        Check.due("4 was to 0", 0, x.wire(4, 4));
        Check.due("3 was to its own", 3, x.wire(3, 2));
        Doc.says(16, "UNKNOWN.");
        Check.due("COLUMN 5", SoupWall.UNKNOWN, x.wire(5, 0));
        Check.due("COLUMN -1", SoupWall.UNKNOWN, x.wire(-1, 0));
        Check.due("to COLUMN 5", SoupWall.UNKNOWN, x.wire(0, 5));
        Check.due("to COLUMN -1", SoupWall.UNKNOWN, x.wire(0, -1));
        Check.due("the wire stays", 3, x.column(0, 6));
    }

    private static void draws() {
        Doc.says(Doc.TERMS, "BY DRAWS: THE SEED (0 at first:");
        SoupWall x = Check.wallOf("coin 1 20 3;column 1 1 99 60;");
        Check.due("THE SEED", 0, x.seed(0));
        Doc.says(Doc.TERMS, "each DRAW it becomes it times 1103515245 and 12345, left over by 2 to the 31;");
        for (long seed : new long[] {0, 1, 5, 65535, 65536, 1234567890, 2147483646, 2147483647}) {
            x.seed((int) seed);
            x.drift(1);
            long then = seed;
            for (int i = 0; i < 13; i++) {
                then = Days.next(then);
            }
            Check.due("13 DRAWS from " + seed, then, x.seed(0));
        }
        Doc.says(Doc.TERMS, "the DRAW of n is it / 65536, left over by n):");
        for (long seed : new long[] {0, 1, 5, 65535, 65536, 1234567890, 2147483646, 2147483647}) {
            x.seed((int) seed);
            x.drift(1);
            Check.due("the DRAW of 4 from " + seed, Days.next(seed) / 65536 % 4, x.told(7));
        }
    }

    private static void daysByDraws() {
        Doc.says(Doc.TERMS, "n days: DAMP becomes a DRAW of 4;");
        int seen = 0;
        for (int seed = 0; seed < 60; seed++) {
            SoupWall x = Check.wallOf(WALL);
            x.damp(9);
            x.seed(seed);
            x.drift(1);
            seen |= 1 << x.told(7);
            Check.due("DAMP of the day", Days.next(seed) / 65536 % 4, x.told(7));
        }
        Check.due("0 to 3", 0b1111, seen);
        Doc.says(Doc.TERMS, "then 4 times: by a DRAW of COLUMNS, one of KINDS, one of 6 and 1 coins: a SALE, if it can be made.");
        for (int seed = 0; seed < 120; seed++) {
            for (int n = 1; n < 70; n += 34) {
                Days.byHand(WALL, seed * 17895697, n);
                Days.byHand("coin 1 20 60;column 1 1 99 60;", seed * 17895697, n);
                Days.byHand("coin 1 10 0;coin 9 20 60;coin 20 30 1;coin 20 40 1;coin 5 50 60;column 5 1 99 60;column 9 1 45 60;"
                        + "column 1 10 10 9;column 50 1 99 60;column 99 1 99 60;", seed * 17895697, n);
            }
        }
    }

    private static void drifting() {
        Doc.says(17, "n days (1 .. 99) BY DRAWS:");
        SoupWall x = Check.wallOf(WALL);
        SoupWall y = Check.wallOf(WALL);
        x.drift(99);
        for (int i = 0; i < 99; i++) {
            y.drift(1);
        }
        Check.holds("99 days at once are 99 times one", Check.allOf(x).equals(Check.allOf(y)));
        Doc.says(17, "how many SALES were made.");
        x = Check.wallOf("coin 99 20 60;column 1 1 99 60;");
        x.seed(3);
        int before = x.told(6);
        int made = x.drift(9);
        Check.due("drift(9)", made, x.told(6) - before);
        Check.due("GOODS given", made, 60 - x.column(0, 3));
        Check.holds("some were made", made > 0);
        x.stock(0, 0);
        Check.due("none without GOODS", 0, x.drift(9));
        Check.due("SALES", made, x.told(6));
    }

    private static void driftingRefused() {
        Doc.says(17, "OUTSIDE,");
        SoupWall x = Check.wallOf(WALL);
        String before = Check.allOf(x);
        Check.due("drift(0)", SoupWall.OUTSIDE, x.drift(0));
        Check.due("drift(100)", SoupWall.OUTSIDE, x.drift(100));
        Check.due("drift(-1)", SoupWall.OUTSIDE, x.drift(-1));
        Check.holds("nothing changes", before.equals(Check.allOf(x)));
        Check.holds("drift(1)", x.drift(1) >= 0);
        Check.holds("drift(99)", x.drift(99) >= 0);
        Doc.says(17, "NOT: no KINDS, no COLUMNS.");
        for (String wall : new String[] {"", "slug 9;", "coin 1 20 3;", "column 1 20 30 3;"}) {
            x = Check.wallOf(wall);
            x.damp(5);
            x.seed(6);
            before = Check.allOf(x);
            Check.due("drift(1) of " + wall, SoupWall.NOT, x.drift(1));
            Check.due("drift(99) of " + wall, SoupWall.NOT, x.drift(99));
            Check.holds("nothing changes", before.equals(Check.allOf(x)));
        }
        Check.due("a new object", SoupWall.NOT, new SoupWall().drift(1));
        Check.due("OUTSIDE ahead of it", SoupWall.OUTSIDE, new SoupWall().drift(100));
    }
}
