/** Promises 1 to 4: a new object, feed, wall, fault. */
final class WallTold {
    private static final String COLUMN = "column 1 5 6 1;";

    private WallTold() {
    }

    static void run() {
        newObject();
        feeding();
        feedingFull();
        becomesTheWall();
        whatAWallClears();
        eachWallIsNew();
        faultyWall();
        faultByte();
    }

    private static void newObject() {
        Doc.says(1, "No KINDS, no COLUMNS.");
        SoupWall x = new SoupWall();
        Check.due("KINDS", 0, x.told(0));
        Check.due("COLUMNS", 0, x.told(1));
        for (int what = 2; what <= 11; what++) {
            Check.due("told(" + what + ")", 0, x.told(what));
        }
        Check.due("coin(0, 0)", SoupWall.UNKNOWN, x.coin(0, 0));
        Check.due("column(0, 0)", SoupWall.UNKNOWN, x.column(0, 0));
        Check.due("tube(0, 0)", SoupWall.UNKNOWN, x.tube(0, 0));
        Check.due("stock(0, 0)", SoupWall.UNKNOWN, x.stock(0, 0));
        Check.due("wire(0, 0)", SoupWall.UNKNOWN, x.wire(0, 0));
        Check.due("cheat(0)", SoupWall.UNKNOWN, x.cheat(0));
        Check.due("fewest(0, NONE)", SoupWall.UNKNOWN, x.fewest(0, SoupWall.NONE));
        Check.due("fill(0)", SoupWall.UNKNOWN, x.fill(0));
        Check.due("fill(NONE)", 0, x.fill(SoupWall.NONE));
        Check.due("fault()", SoupWall.NONE, x.fault());
        Check.due("the SEED", 0, x.seed(0));
    }

    private static void feeding() {
        Doc.says(2, "Up to eight bytes (n 1 .. 8) of a long,");
        for (int n = 1; n <= 8; n++) {
            Check.due("feed(" + n + ")", n, new SoupWall().feed(n, -1L));
        }
        Doc.says(2, "the highest of these first,");
        SoupWall x = new SoupWall();
        x.feed(8, Check.bytesOf("coin 7 3"));
        x.feed(4, Check.bytesOf("xxxx1 5;"));
        x.wall();
        Check.due("coin 7 31 5;", 7 * 10000 + 31 * 100 + 5, x.coin(0, 0) * 10000 + x.coin(0, 1) * 100 + x.coin(0, 3));
        x.feed(8, 0x80ff000000000000L);
        Check.due("a byte above 127 cannot stand there", -11, x.wall());
        Check.due("it is the first", 0, x.fault());
        Doc.says(2, "come behind THE TEXT: how many it has.");
        Check.due("3 bytes", 3, x.feed(3, Check.bytesOf("slu")));
        Check.due("5 bytes", 5, x.feed(2, Check.bytesOf("g ")));
        Check.due("7 bytes", 7, x.feed(2, Check.bytesOf("9;")));
        Check.due("told(3)", 7, x.told(3));
        x.wall();
        Check.due("slugs", 1, x.told(2));
        Doc.says(2, "OUTSIDE");
        Check.due("feed(0)", SoupWall.OUTSIDE, x.feed(0, ' '));
        Check.due("feed(9)", SoupWall.OUTSIDE, x.feed(9, ' '));
        Check.due("feed(-8)", SoupWall.OUTSIDE, x.feed(-8, ' '));
        Check.due("nothing came", 0, x.told(3));
    }

    private static void feedingFull() {
        Doc.says(2, "FULL (400).");
        for (int n = 1; n <= 8; n++) {
            SoupWall x = new SoupWall();
            Check.feed(x, " ".repeat(401 - n));
            Check.due("one too many of " + n, SoupWall.FULL, x.feed(n, Check.bytesOf("        ")));
            Check.due("not a part of them comes", 401 - n, x.told(3));
            if (n > 1) {
                Check.due("to 400", 400, x.feed(n - 1, Check.bytesOf("        ")));
            }
            Check.due("beyond 400", SoupWall.FULL, x.feed(1, ' '));
            Check.due("400 blanks are no COLUMNS", 0, x.wall());
            Check.due("there is room again", 8, x.feed(8, 0));
        }
    }

    private static void becomesTheWall() {
        Doc.says(3, "THE TEXT (it is empty then) becomes THE WALL");
        SoupWall x = Check.wallOf("coin 1 20 3;" + COLUMN);
        Check.due("bytes of THE TEXT", 0, x.told(3));
        Check.due("KINDS", 1, x.told(0));
        Check.due("wall() of the empty text", 0, x.wall());
        Check.due("no KINDS", 0, x.told(0));
        Check.due("no COLUMNS", 0, x.told(1));
        Check.feed(x, "slug 9");
        Check.due("a fault", -11, x.wall());
        Check.due("it is empty then, too", 0, x.told(3));
        Doc.says(3, "how many COLUMNS;");
        for (int c = 0; c <= 5; c++) {
            x = new SoupWall();
            Check.feed(x, "coin 1 20 3;slug 9;" + COLUMN.repeat(c));
            Check.due("wall() with " + c, c, x.wall());
        }
    }

    private static void whatAWallClears() {
        Doc.says(3, "(nothing LOST, no STAMPS, SALES, STICK, WORN 0, DAMP 0;");
        String wall = "coin 5 30 60;column 3 20 40 9;slug 33;kick 0 rr;";
        SoupWall x = Check.wallOf(wall);
        x.damp(9);
        x.wear(4);
        x.wire(0, 0);
        x.price(0, 1);
        x.span(0, 1, 99);
        x.buy(0, 0, 99);
        x.kick(0, 1);
        x.buyer(0, 0, 1);
        x.attempt(1, 1, true);
        x.seed(77);
        x.keep(0);
        x.keep(1);
        Check.holds("LOST, STAMPS, SALES and STICK are there", x.told(4) > 0 && x.told(5) > 0 && x.told(6) > 0 && x.column(0, 4) > 9);
        Check.feed(x, wall);
        Check.due("wall()", 1, x.wall());
        for (int what = 4; what <= 8; what++) {
            Check.due("told(" + what + ")", 0, x.told(what));
        }
        Check.due("STICK", 0, x.column(0, 4));
        Check.due("TUBE", 60, x.coin(0, 3));
        Check.due("GOODS", 9, x.column(0, 3));
        Check.due("PRICE", 3, x.column(0, 0));
        Check.due("SPAN", 2040, x.span(0, 20, 40));
        Doc.says(3, "no BUYERS, TRIES;");
        Check.due("BUYERS", 0, x.told(9));
        Check.due("TRIES", 0, x.told(10));
        Check.due("all of one kick fit", 2, x.fits(1, SoupWall.NONE));
        Doc.says(3, "IMAGES are gone;");
        Check.due("IMAGE 0", SoupWall.NOT, x.goBack(0));
        Check.due("IMAGE 1", SoupWall.NOT, x.goBack(1));
        Check.due("NIGHT", SoupWall.NOT, x.night(0));
        Doc.says(3, "THE SEED stays):");
        Check.due("THE SEED", 77, x.seed(2147483647));
        Check.due("wall() of no text", 0, x.wall());
        Check.due("the greatest SEED", 2147483647, x.seed(0));
    }

    /** Whatever came ahead, good or faulty, and however often: a wall is like that of a new object. */
    private static void eachWallIsNew() {
        Doc.says(3, "becomes THE WALL");
        String full = "coin 5 30 60;".repeat(5) + "column 3 20 40 9;".repeat(5) + "slug 33;".repeat(5)
                + "kick 0 rr;kick 1 rrr;kick 2 rrl;kick 3 llr;kick 4 rrrr;";
        String small = "coin 5 30 2;column 3 20 40 9;column 3 20 40 9;kick 1 rr;";
        String fresh = Check.allOf(Check.wallOf(small));
        for (int walls = 1; walls <= 6; walls++) {
            SoupWall x = new SoupWall();
            for (int i = 0; i < walls % 4 + 1; i++) {
                Check.feed(x, full);
                Check.due("wall() of the full one", 5, x.wall());
                spoil(x);
            }
            if (walls > 3) {
                Check.feed(x, full + "slug");
                Check.due("wall() of a faulty one", -13, x.wall());
            }
            Check.feed(x, small);
            Check.due("wall() of the small one", 2, x.wall());
            Check.holds("all is as in a new object", fresh.equals(Check.allOf(x)));
            x.damp(9);
            x.buy(0, 0, 2);
            x.buy(1, 0, 2);
            Check.due("r is not its RHYTHM", 0, x.kick(0, 1));
            Check.due("l is its RHYTHM", 1, x.kick(0, 0));
            Check.due("the kicks ahead of the wall are gone", 0, x.kick(1, 1));
            Check.due("rr", 1, x.kick(1, 1));
        }
    }

    private static void spoil(SoupWall x) {
        x.damp(9);
        x.wear(4);
        for (int c = 0; c < 5; c++) {
            x.price(c, 1);
            x.span(c, 1, 99);
            x.wire(c, 4 - c);
            x.buy(c, c, 99);
            x.kick(c, 1);
            x.stock(c, 33);
            x.tube(c, 44);
            x.buyer(c, c, c + 1);
            x.attempt(0, c + 1, true);
        }
    }

    private static void faultyWall() {
        Doc.says(3, "-10 less the number of its FAULT");
        wallIs(-11, "soup;");
        wallIs(-12, "slug 0;");
        wallIs(-13, "slug 9;".repeat(6));
        wallIs(-14, "column 1 6 5 1;");
        Doc.says(3, "(all is as it was).");
        String[] faulty = {"soup;", "slug 0;", "slug 9;".repeat(6), COLUMN + "kick 0 x;", "coin 9 99 9;column 9 9 9 9;kick 0 r;slug 9;slug"};
        for (String text : faulty) {
            SoupWall x = Twins.busyWithoutText();
            Check.feed(x, text);
            Check.holds("wall() of " + text + " tells a fault", x.wall() < -10);
            Check.holds("all is as it was ahead of " + text, Twins.goOn(x).equals(Twins.goOn(Twins.busyWithoutText())));
        }
    }

    private static void wallIs(int due, String text) {
        SoupWall x = new SoupWall();
        Check.feed(x, text);
        Check.due("wall() of " + text, due, x.wall());
    }

    private static void faultByte() {
        Doc.says(4, "The byte of the FAULT of the latest wall();");
        SoupWall x = new SoupWall();
        Check.feed(x, "slug 9;soup");
        Check.due("no wall() yet", SoupWall.NONE, x.fault());
        x.wall();
        Check.due("byte 7", 7, x.fault());
        Check.due("byte 7 still", 7, x.fault());
        Check.feed(x, "slug 0;");
        Check.due("byte 7 until the next wall()", 7, x.fault());
        x.wall();
        Check.due("byte 5", 5, x.fault());
        Check.feed(x, ";");
        x.wall();
        Check.due("byte 0", 0, x.fault());
        Check.feed(x, " ".repeat(396) + "slug");
        x.wall();
        Check.due("the end of 400 bytes", 400, x.fault());
        Doc.says(4, "NONE.");
        Check.due("a new object", SoupWall.NONE, new SoupWall().fault());
        Check.feed(x, "slug 9;");
        x.wall();
        Check.due("a good wall", SoupWall.NONE, x.fault());
        x.wall();
        Check.due("the empty wall", SoupWall.NONE, x.fault());
    }
}
