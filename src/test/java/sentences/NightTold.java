/** Promises 22 to 25 and what part 3 says of them: night, best, cheat, cheats. */
final class NightTold {
    private static final int NONE = SoupWall.NONE;

    private NightTold() {
    }

    static void run() {
        fromImageZero();
        someCame();
        eachSaleIsMade();
        asNow();
        sure();
        night();
        bestSpan();
        bestOfLikeOnes();
        noBestSpan();
        best();
        cheats();
        cheat();
    }

    private static void fromImageZero() {
        Doc.says(Doc.TERMS, "from IMAGE 0");
        SoupWall x = Check.wallOf("coin 1 20 0;coin 5 30 0;column 1 1 99 9;column 5 1 99 9;");
        x.buyer(0, 0, 1);
        x.buyer(1, 1, 1);
        x.keep(1);
        x.buy(1, 1, 1);
        x.keep(0);
        x.buy(0, 0, 1);
        came(x, 1, 0b01);
        x.goBack(1);
        came(x, 0, 0);
        x.goBack(0);
        came(x, 1, 0b00);
        x.buy(0, 0, 1);
        x.price(0, 99);
        x.price(1, 99);
        x.span(0, 1, 1);
        x.wire(0, 1);
        x.wear(9);
        x.damp(9);
        x.seed(5);
        came(x, 1, 0b01);
        x.keep(0);
        came(x, 1, 0b00);
    }

    private static void someCame() {
        Doc.says(Doc.TERMS, "some BUYERS (a SET) came, the others not,");
        SoupWall x = Check.wallOf("coin 1 20 0;coin 2 30 0;coin 4 40 0;column 1 20 20 9;column 2 30 30 9;column 4 40 40 9;");
        x.keep(0);
        came(x, 1, 0);
        for (int b = 0; b < 3; b++) {
            x.buyer(b, b, 1);
        }
        for (int set = 0; set < 8; set++) {
            x.goBack(0);
            for (int b = 0; b < 3; b++) {
                if ((set >> b & 1) == 1) {
                    x.buy(b, b, 1);
                }
            }
            came(x, 1, set);
        }
        x.buy(0, 0, 1);
        came(x, 0, 0);
        x.goBack(0);
        x.tear();
        came(x, 1, 0);
        for (int b = 0; b < 8; b++) {
            x.buyer(0, 0, 1);
        }
        for (int b = 0; b <= 8; b++) {
            int[] ways = {1, 8, 28, 56, 70, 56, 28, 8, 1};
            came(x, ways[b], b == 8 ? 255 : 0);
            x.buy(0, 0, 1);
        }
        came(x, 0, 0);
    }

    private static void eachSaleIsMade() {
        Doc.says(Doc.TERMS, "each SALE being made:");
        SoupWall x = Check.wallOf("coin 1 20 0;column 1 1 99 1;column 1 50 60 9;");
        x.buyer(0, 0, 1);
        x.buyer(0, 0, 1);
        x.buyer(1, 0, 1);
        x.keep(0);
        came(x, 1, 0);
        x.buy(0, 0, 1);
        came(x, 2, 0);
        x = Check.wallOf("coin 1 20 0;column 1 1 99 9;");
        x.damp(5);
        for (int b = 0; b < 3; b++) {
            x.buyer(0, 0, 1);
        }
        x.keep(0);
        x.damp(0);
        x.buy(0, 0, 1);
        x.buy(0, 0, 1);
        came(x, 3, 0);
        x.buy(0, 0, 1);
        came(x, 0, 0);
    }

    private static void asNow() {
        Doc.says(Doc.TERMS, "so that TUBES, GOODS, LOST and STAMPS are as now: how many such SETS;");
        String wall = "coin 1 20 60;coin 9 20 0;coin 1 30 0;coin 1 30 0;coin 1 30 0;" + "column 1 20 20 9;".repeat(5);
        SoupWall x = Check.wallOf(wall);
        x.buyer(0, 0, 1);
        x.keep(0);
        for (int k = 0; k < 5; k++) {
            int coins = x.coin(k, 3);
            x.tube(k, 33);
            came(x, 0, 0);
            x.tube(k, coins);
        }
        for (int c = 0; c < 5; c++) {
            x.stock(c, 7);
            came(x, 0, 0);
            x.stock(c, 9);
        }
        came(x, 1, 0);
        x.stock(0, 8);
        came(x, 0, 0);
        x.stock(0, 9);
        x.buy(0, 0, 1);
        came(x, 1, 1);
        x = Check.wallOf("coin 2 20 0;column 1 1 99 9;column 2 1 99 9;");
        x.buyer(0, 0, 1);
        x.keep(0);
        x.buy(1, 0, 1);
        x.stock(1, 9);
        x.stock(0, 8);
        came(x, 0, 0);
        x.goBack(0);
        x.buy(0, 0, 1);
        came(x, 1, 1);
        x.kick(0, 0);
        x.seed(9);
        came(x, 1, 1);
    }

    private static void sure() {
        Doc.says(Doc.TERMS, "SURE: who came in all of them (a SET; 0, if there are none).");
        SoupWall x = Check.wallOf("coin 1 20 0;coin 9 21 0;column 1 1 99 9;column 9 1 99 9;");
        x.buyer(0, 0, 1);
        x.buyer(1, 1, 1);
        x.buyer(0, 0, 1);
        x.buyer(0, 0, 1);
        x.keep(0);
        x.buy(0, 0, 1);
        x.buy(0, 0, 1);
        came(x, 3, 0b0000);
        x.buy(1, 1, 1);
        came(x, 3, 0b0010);
        x.buy(0, 0, 1);
        came(x, 1, 0b1111);
        x.buy(0, 0, 1);
        came(x, 0, 0);
    }

    private static void came(SoupWall x, int sets, int sure) {
        Check.due("night(0)", sets, x.night(0));
        Check.due("night(1)", sure, x.night(1));
    }

    private static void night() {
        Doc.says(22, "NIGHT: what = 0 how many SETS,");
        SoupWall x = Check.wallOf("coin 1 20 0;column 1 1 99 9;");
        x.keep(0);
        Check.due("nobody, and nobody came", 1, x.night(0));
        x.buyer(0, 0, 1);
        x.buyer(0, 0, 1);
        x.buy(0, 0, 1);
        Check.due("one of two", 2, x.night(0));
        Doc.says(22, "1 SURE.");
        Check.due("neither is", 0, x.night(1));
        x.buy(0, 0, 1);
        Check.due("both are", 3, x.night(1));
        Doc.says(22, "OUTSIDE,");
        Check.due("night(2)", SoupWall.OUTSIDE, x.night(2));
        Check.due("night(-1)", SoupWall.OUTSIDE, x.night(-1));
        Check.due("ahead of NOT", SoupWall.OUTSIDE, new SoupWall().night(2));
        Doc.says(22, "NOT: IMAGE 0 was not kept.");
        Check.due("a new object", SoupWall.NOT, new SoupWall().night(0));
        x = Check.wallOf("coin 1 20 0;column 1 1 99 9;");
        x.keep(1);
        Check.due("IMAGE 1 alone", SoupWall.NOT, x.night(0));
        Check.due("IMAGE 1 alone", SoupWall.NOT, x.night(1));
        x.keep(0);
        Check.due("kept", 1, x.night(0));
        x.wall();
        Check.due("gone by wall()", SoupWall.NOT, x.night(1));
    }

    private static void bestSpan() {
        Doc.says(Doc.TERMS, "BEST SPAN: A to B (1 to 99) by which no slug would pass");
        best("coin 1 20 0;coin 1 40 0;slug 30;", 20, 20, 1);
        best("coin 1 20 0;coin 1 40 0;slug 41;slug 19;", 20, 40, 2);
        best("coin 1 20 0;coin 1 40 0;slug 40;", 20, 20, 1);
        best("coin 1 20 0;coin 1 40 0;slug 20;", 40, 40, 1);
        best("coin 1 20 0;coin 1 30 0;coin 1 40 0;slug 20;slug 40;", 30, 30, 1);
        best("coin 1 99 0;slug 98;", 99, 99, 1);
        best("coin 1 99 0;coin 1 10 0;", 10, 99, 2);
        Doc.says(Doc.TERMS, "and the most KINDS do (WEIGHTS NOW);");
        best("coin 1 20 0;coin 1 30 0;coin 1 50 0;coin 1 70 0;coin 1 90 0;slug 40;", 50, 90, 3);
        best("coin 1 20 0;coin 1 30 0;coin 1 50 0;coin 1 70 0;coin 1 90 0;", 20, 90, 5);
        best("coin 1 20 0;coin 1 20 0;coin 1 20 0;coin 1 50 0;coin 1 90 0;slug 40;", 20, 20, 3);
        SoupWall x = Check.wallOf("coin 1 20 0;coin 1 30 0;coin 1 10 0;slug 25;slug 15;");
        x.wear(5);
        best(x, 5, 5, 1);
        x.wear(6);
        best(x, 4, 14, 2);
        x.wear(4);
        best(x, 6, 6, 1);
        x = Check.wallOf("coin 1 10 0;".repeat(5));
        x.wear(9);
        best(x, 1, 1, 5);
        best("coin 1 99 0;".repeat(5), 99, 99, 5);
    }

    private static void bestOfLikeOnes() {
        Doc.says(Doc.TERMS, "of like ones the narrowest,");
        best("coin 1 20 0;coin 1 24 0;coin 1 50 0;coin 1 52 0;slug 30;", 50, 52, 2);
        best("coin 1 50 0;coin 1 53 0;coin 1 20 0;coin 1 22 0;slug 30;", 20, 22, 2);
        best("coin 1 20 0;coin 1 30 0;coin 1 50 0;coin 1 50 0;slug 40;", 50, 50, 2);
        best("coin 1 10 0;coin 1 98 0;coin 1 99 0;slug 50;", 98, 99, 2);
        Doc.says(Doc.TERMS, "then the least A;");
        best("coin 1 52 0;coin 1 50 0;coin 1 24 0;coin 1 22 0;slug 30;", 22, 24, 2);
        best("coin 1 52 0;coin 1 24 0;slug 30;", 24, 24, 1);
        best("coin 1 99 0;coin 1 10 0;slug 30;", 10, 10, 1);
    }

    private static void noBestSpan() {
        Doc.says(Doc.TERMS, "NONE: by each of them some slug would,");
        best("coin 1 20 0;slug 20;", 1, 1, 0);
        best("coin 1 20 0;slug 20;slug 1;slug 3;", 2, 2, 0);
        best("coin 1 20 0;slug 20;slug 4;slug 3;slug 2;slug 1;", 5, 5, 0);
        Doc.says(Doc.TERMS, "or there are no KINDS.");
        best("slug 20;", NONE, NONE, NONE);
        best("column 1 1 99 9;", NONE, NONE, NONE);
        best("", NONE, NONE, NONE);
        best(new SoupWall(), NONE, NONE, NONE);
    }

    private static void best(String text, int a, int b, int kinds) {
        best(Check.wallOf(text), a, b, kinds);
    }

    private static void best(SoupWall x, int a, int b, int kinds) {
        Check.due("best(0)", a, x.best(0));
        Check.due("best(1)", b, x.best(1));
        Check.due("best(2)", kinds, x.best(2));
    }

    private static void best() {
        Doc.says(23, "BEST SPAN: what = 0 A,");
        SoupWall x = Check.wallOf("coin 1 10 0;coin 1 12 0;coin 1 99 0;slug 40;");
        Check.due("best(0)", 10, x.best(0));
        x.wear(9);
        Check.due("best(0), WORN", 1, x.best(0));
        Doc.says(23, "1 B,");
        Check.due("best(1), WORN", 3, x.best(1));
        x.wear(0);
        Check.due("best(1)", 12, x.best(1));
        Doc.says(23, "2 how many KINDS;");
        Check.due("best(2)", 2, x.best(2));
        Doc.says(23, "NONE.");
        best("slug 40;", NONE, NONE, NONE);
        Doc.says(23, "OUTSIDE.");
        Check.due("best(3)", SoupWall.OUTSIDE, x.best(3));
        Check.due("best(-1)", SoupWall.OUTSIDE, x.best(-1));
        Check.due("best(3) without KINDS", SoupWall.OUTSIDE, new SoupWall().best(3));
        Check.due("best(-1) without KINDS", SoupWall.OUTSIDE, new SoupWall().best(-1));
    }

    private static void cheats() {
        Doc.says(Doc.TERMS, "CHEAT of a BUTTON: PRICE of the COLUMN to which it is WIRED less its own.");
        SoupWall x = Check.wallOf("column 7 1 99 9;column 12 1 99 9;column 3 1 99 9;column 99 1 99 9;column 1 1 99 9;");
        Check.due("its own", 0, x.cheat(0));
        x.wire(0, 1);
        Check.due("12 less 7", 5, x.cheat(0));
        x.wire(1, 2);
        Check.due("3 less 12", -9, x.cheat(1));
        Check.due("one wire, not two", 5, x.cheat(0));
        x.wire(4, 3);
        Check.due("99 less 1", 98, x.cheat(4));
        x.wire(3, 4);
        Check.due("1 less 99", -98, x.cheat(3));
        Doc.says(Doc.TERMS, "BEST CHEAT: the greatest above 0;");
        Check.due("98 of 4", 4, x.cheats());
        x.wire(4, 4);
        Check.due("5 of 0", 0, x.cheats());
        x.wire(2, 1);
        Check.due("9 of 2", 2, x.cheats());
        x.wire(2, 2);
        x.price(0, 11);
        Check.due("1 of 0", 0, x.cheats());
        Doc.says(Doc.TERMS, "of like ones the least COLUMN;");
        x.wire(3, 3);
        x.wire(4, 2);
        x.price(4, 2);
        Check.due("1 of 0, 1 of 4", 0, x.cheats());
        x.price(0, 12);
        Check.due("1 of 4", 4, x.cheats());
        x.wire(2, 0);
        x.price(2, 11);
        x.price(4, 10);
        Check.due("1 of 2, 1 of 4", 2, x.cheats());
        Doc.says(Doc.TERMS, "NONE. TRIES");
        x.price(2, 12);
        x.price(4, 12);
        Check.due("0 of all", NONE, x.cheats());
        x.price(4, 13);
        Check.due("-1 of 4", NONE, x.cheats());
    }

    private static void cheat() {
        Doc.says(24, "CHEAT of a BUTTON.");
        SoupWall x = Check.wallOf("column 7 1 99 0;column 12 1 99 0;");
        x.wire(0, 1);
        Check.due("cheat(0)", 5, x.cheat(0));
        Check.due("cheat(1)", 0, x.cheat(1));
        x.price(1, 1);
        Check.due("-6, which is no refusal", -6, x.cheat(0));
        x.price(1, 6);
        Check.due("-1, which is not NONE", -1, x.cheat(0));
        Doc.says(24, "UNKNOWN.");
        Check.due("COLUMN 2", SoupWall.UNKNOWN, x.cheat(2));
        Check.due("COLUMN -1", SoupWall.UNKNOWN, x.cheat(-1));
        Check.due("COLUMN 5 of five", SoupWall.UNKNOWN, Check.wallOf("column 7 1 99 0;".repeat(5)).cheat(5));
        Doc.says(25, "BEST CHEAT;");
        x.price(1, 8);
        Check.due("1 of 0", 0, x.cheats());
        Doc.says(25, "NONE.");
        x.price(1, 7);
        Check.due("0 of 0", NONE, x.cheats());
        Check.due("no COLUMNS", NONE, new SoupWall().cheats());
        Check.due("none crossed of five", NONE, Check.wallOf("column 7 1 99 0;".repeat(5)).cheats());
    }
}
