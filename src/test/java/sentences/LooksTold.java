/** Promises 5 to 7: told, coin, column. */
final class LooksTold {
    private static final String WALL = "coin 3 20 4;coin 5 30 2;coin 10 40 0;coin 2 99 60;coin 1 10 1;"
            + "column 7 15 35 4;column 12 25 45 2;column 4 20 22 9;column 99 1 99 60;column 1 99 99 0;"
            + "slug 33;slug 50;slug 15;slug 1;slug 99;";

    private LooksTold() {
    }

    static void run() {
        toldOfTheWall();
        toldOfSales();
        countedAtMost();
        toldOfWhatIsTried();
        coins();
        columns();
        columnSets();
    }

    private static void toldOfTheWall() {
        Doc.says(5, "0 KINDS,");
        SoupWall x = Check.wallOf("coin 3 20 4;column 7 15 35 4;column 7 15 35 4;slug 9;slug 9;slug 9;");
        Check.due("told(0)", 1, x.told(0));
        Check.due("told(0) of five", 5, Check.wallOf(WALL).told(0));
        Doc.says(5, "1 COLUMNS,");
        Check.due("told(1)", 2, x.told(1));
        Check.due("told(1) of five", 5, Check.wallOf(WALL).told(1));
        Doc.says(5, "2 slugs,");
        Check.due("told(2)", 3, x.told(2));
        Check.due("told(2) of five", 5, Check.wallOf(WALL).told(2));
        Doc.says(5, "3 bytes of THE TEXT,");
        Check.due("told(3) behind wall()", 0, x.told(3));
        x.feed(7, 0);
        Check.due("told(3)", 7, x.told(3));
        Check.feed(x, " ".repeat(393));
        Check.due("told(3) at most", 400, x.told(3));
    }

    private static void toldOfSales() {
        Doc.says(5, "4 LOST coins,");
        SoupWall x = Check.wallOf("coin 2 20 59;coin 50 20 0;column 4 1 99 9;column 49 1 99 9;");
        Check.due("none at first", 0, x.told(4));
        x.buy(0, 0, 2);
        Check.due("one above 60", 1, x.told(4));
        x.buy(0, 0, 2);
        Check.due("two more", 3, x.told(4));
        Doc.says(5, "6 SALES (999999999 at most),");
        Check.due("two made", 2, x.told(6));
        x.buy(0, 0, 1);
        Check.due("one that is not made does not count", 2, x.told(6));
        x.tube(0, 0);
        x.buy(1, 1, 1);
        Check.due("three made", 3, x.told(6));
        Check.due("STAMPS of it", 1, x.told(5));
        Doc.says(5, "7 DAMP,");
        Check.due("at first", 0, x.told(7));
        x.damp(9);
        Check.due("9", 9, x.told(7));
        Doc.says(5, "8 WORN,");
        Check.due("at first", 0, x.told(8));
        x.wear(8);
        Check.due("8", 8, x.told(8));
        Check.due("DAMP is another", 9, x.told(7));
    }

    /** What 512 calls can count is far below the most; it is counted in full up to there. */
    private static void countedAtMost() {
        Doc.says(5, "5 STAMPS (both 999999999 at most),");
        SoupWall x = Check.wallOf("coin 99 20 0;column 1 1 99 60;");
        int lost = 0;
        int stamps = 0;
        for (int i = 0; i < 240; i++) {
            x.stock(0, 60);
            Check.due("60 come back", 5940, x.buy(0, 0, 99));
            lost += 39;
            stamps += 9800 - 5940;
        }
        Check.due("LOST", lost, x.told(4));
        Check.due("STAMPS", stamps, x.told(5));
        Check.due("SALES", 240, x.told(6));
        Check.holds("at most", x.told(4) <= 999999999 && x.told(5) <= 999999999);
    }

    private static void toldOfWhatIsTried() {
        Doc.says(5, "9 BUYERS,");
        SoupWall x = Check.wallOf(WALL);
        for (int i = 0; i <= 8; i++) {
            Check.due("told(9)", i, x.told(9));
            x.buyer(0, 0, 1);
        }
        Check.due("told(9) at most", 8, x.told(9));
        Doc.says(5, "10 TRIES,");
        for (int i = 0; i <= 10; i++) {
            Check.due("told(10)", i, x.told(10));
            x.attempt(0, 1, true);
        }
        Check.due("told(10) at most", 10, x.told(10));
        Doc.says(5, "11 VALUE of all TUBES.");
        Check.due("12 and 10 and 120 and 1", 143, x.told(11));
        Check.due("none", 0, new SoupWall().told(11));
        x = Check.wallOf("coin 99 20 60;".repeat(5));
        Check.due("the most", 5 * 99 * 60, x.told(11));
        x.tube(4, 0);
        Check.due("without the last", 4 * 99 * 60, x.told(11));
        Doc.says(5, "OUTSIDE.");
        Check.due("told(-1)", SoupWall.OUTSIDE, x.told(-1));
        Check.due("told(12)", SoupWall.OUTSIDE, x.told(12));
        Check.due("told(-1) of a new object", SoupWall.OUTSIDE, new SoupWall().told(-1));
        Check.due("told(12) of a new object", SoupWall.OUTSIDE, new SoupWall().told(12));
    }

    private static void coins() {
        SoupWall x = Check.wallOf(WALL);
        x.wear(9);
        Doc.says(6, "Of a KIND: what = 0 VALUE,");
        coin(x, 0, 3, 5, 10, 2, 1);
        Doc.says(6, "1 W,");
        coin(x, 1, 20, 30, 40, 99, 10);
        Doc.says(6, "2 WEIGHT NOW,");
        coin(x, 2, 11, 21, 31, 90, 1);
        Doc.says(6, "3 coins in its TUBE,");
        coin(x, 3, 4, 2, 0, 60, 1);
        x.tube(2, 60);
        Check.due("TUBE 2", 60, x.coin(2, 3));
        Doc.says(6, "4 COLUMNS that it PASSES (a SET).");
        coin(x, 4, 0b01000, 0b01101, 0b01011, 0b01000, 0b01000);
        x.wear(0);
        coin(x, 4, 0b01101, 0b01011, 0b01010, 0b11000, 0b01000);
        x.span(3, 11, 98);
        coin(x, 4, 0b01101, 0b01011, 0b01010, 0b10000, 0b00000);
        Doc.says(6, "UNKNOWN,");
        Check.due("coin(5, 0)", SoupWall.UNKNOWN, x.coin(5, 0));
        Check.due("coin(-1, 0)", SoupWall.UNKNOWN, x.coin(-1, 0));
        Check.due("coin(1, 0) of one KIND", SoupWall.UNKNOWN, Check.wallOf("coin 3 20 4;").coin(1, 0));
        Check.due("coin(0, 5) of no KIND", SoupWall.UNKNOWN, Check.wallOf("column 7 15 35 4;").coin(0, 5));
        Doc.says(6, "OUTSIDE.");
        Check.due("coin(0, 5)", SoupWall.OUTSIDE, x.coin(0, 5));
        Check.due("coin(4, 5)", SoupWall.OUTSIDE, x.coin(4, 5));
        Check.due("coin(0, -1)", SoupWall.OUTSIDE, x.coin(0, -1));
    }

    private static void coin(SoupWall x, int what, int... due) {
        for (int k = 0; k < due.length; k++) {
            Check.due("coin(" + k + ", " + what + ")", due[k], x.coin(k, what));
        }
    }

    private static void columns() {
        SoupWall x = Check.wallOf(WALL);
        Doc.says(7, "Of a COLUMN: what = 0 PRICE,");
        column(x, 0, 7, 12, 4, 99, 1);
        Doc.says(7, "1 A,");
        column(x, 1, 15, 25, 20, 1, 99);
        Doc.says(7, "2 B,");
        column(x, 2, 35, 45, 22, 99, 99);
        Doc.says(7, "3 GOODS,");
        column(x, 3, 4, 2, 9, 60, 0);
        Doc.says(7, "4 STICK,");
        column(x, 4, 0, 0, 0, 0, 0);
        x.damp(3);
        x.buy(0, 1, 3);
        x.buy(1, 1, 4);
        x.buy(3, 3, 99);
        column(x, 4, 9, 12, 0, 297, 0);
        Doc.says(7, "5 whether it is JAMMED (1, 0),");
        column(x, 5, 0, 1, 0, 1, 0);
        Doc.says(7, "6 to which its BUTTON is WIRED,");
        column(x, 6, 0, 1, 2, 3, 4);
        x.wire(0, 4);
        x.wire(4, 0);
        column(x, 6, 4, 1, 2, 3, 0);
    }

    private static void columnSets() {
        SoupWall x = Check.wallOf(WALL);
        Doc.says(7, "7 KINDS that PASS (a SET),");
        column(x, 7, 0b00011, 0b00110, 0b00001, 0b11111, 0b01000);
        x.wear(9);
        column(x, 7, 0b00110, 0b00100, 0b00010, 0b11111, 0b00000);
        Doc.says(7, "8 slugs that would (a SET).");
        column(x, 8, 0b00101, 0b00001, 0b00000, 0b11111, 0b10000);
        x.span(3, 2, 98);
        column(x, 8, 0b00101, 0b00001, 0b00000, 0b00111, 0b10000);
        Doc.says(7, "UNKNOWN,");
        Check.due("column(5, 0)", SoupWall.UNKNOWN, x.column(5, 0));
        Check.due("column(-1, 0)", SoupWall.UNKNOWN, x.column(-1, 0));
        Check.due("column(1, 0) of one COLUMN", SoupWall.UNKNOWN, Check.wallOf("column 7 15 35 4;").column(1, 0));
        Check.due("column(0, 9) of no COLUMN", SoupWall.UNKNOWN, Check.wallOf("coin 3 20 4;").column(0, 9));
        Doc.says(7, "OUTSIDE.");
        Check.due("column(0, 9)", SoupWall.OUTSIDE, x.column(0, 9));
        Check.due("column(4, 9)", SoupWall.OUTSIDE, x.column(4, 9));
        Check.due("column(0, -1)", SoupWall.OUTSIDE, x.column(0, -1));
    }

    private static void column(SoupWall x, int what, int... due) {
        for (int c = 0; c < due.length; c++) {
            Check.due("column(" + c + ", " + what + ")", due[c], x.column(c, what));
        }
    }
}
