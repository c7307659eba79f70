/** Promises 29 to 31 and what part 3 says of images: seed, keep, goBack. */
final class ImagesTold {
    private static final String WALL = "coin 1 20 59;coin 5 30 2;coin 1 40 0;coin 1 50 0;coin 1 60 0;column 3 15 35 4;column 12 25 45 2;"
            + "column 9 1 99 9;column 9 1 99 9;column 1 1 99 9;kick 0 rrl;kick 4 lr;";

    private ImagesTold() {
    }

    static void run() {
        eachIsKept();
        kicksAreKept();
        othersAreNot();
        seed();
        keep();
        goBack();
    }

    private static void eachIsKept() {
        Doc.says(Doc.TERMS, "IMAGES 0, 1 keep TUBES, GOODS, STICK,");
        for (int i = 0; i < 5; i++) {
            int at = i;
            comesBack("TUBE " + i, x -> x.tube(at, 33), x -> x.coin(at, 3));
            comesBack("GOODS " + i, x -> x.stock(at, 33), x -> x.column(at, 3));
        }
        comesBack("STICK 0", x -> x.damp(1) + x.buy(0, 0, 3), x -> x.column(0, 4));
        comesBack("STICK 4", x -> x.damp(9) + x.buy(4, 0, 3), x -> x.column(4, 4));
        comesBack("JAMMED 4", x -> x.damp(9) + x.buy(4, 0, 3), x -> x.column(4, 5));
        Doc.says(Doc.TERMS, "SPANS, PRICES, WIRES,");
        for (int i = 0; i < 5; i++) {
            int at = i;
            comesBack("A of " + i, x -> x.span(at, 2, 98), x -> x.column(at, 1));
            comesBack("B of " + i, x -> x.span(at, 2, 98), x -> x.column(at, 2));
            comesBack("PRICE " + i, x -> x.price(at, 33), x -> x.column(at, 0));
            comesBack("WIRE " + i, x -> x.wire(at, (at + 1) % 5), x -> x.column(at, 6));
        }
        Doc.says(Doc.TERMS, "LOST, STAMPS, SALES, DAMP, WORN, THE SEED.");
        comesBack("LOST", x -> x.buy(0, 0, 9), x -> x.told(4));
        comesBack("STAMPS", x -> x.tube(0, 0) + x.tube(1, 0) + x.buy(1, 1, 3), x -> x.told(5));
        comesBack("SALES", x -> x.buy(4, 0, 1), x -> x.told(6));
        comesBack("DAMP", x -> x.damp(7), x -> x.told(7));
        comesBack("WORN", x -> x.wear(7), x -> x.told(8));
        comesBack("THE SEED by seed", x -> x.seed(7), ImagesTold::seedOf);
        comesBack("THE SEED by drift", x -> x.drift(1), ImagesTold::seedOf);
    }

    private static int seedOf(SoupWall x) {
        int seed = x.seed(0);
        x.seed(seed);
        return seed;
    }

    /** Either image keeps it, as it was at first and as it is behind the change. */
    private static void comesBack(String name, Twins.Call change, Twins.Call look) {
        for (int i = 0; i < 2; i++) {
            SoupWall x = Check.wallOf(WALL);
            String first = Check.allOf(x);
            int was = look.on(x);
            x.keep(i);
            change.on(x);
            int is = look.on(x);
            String then = Check.allOf(x);
            x.keep(1 - i);
            Check.holds(name + " changes", was != is);
            x.goBack(i);
            Check.due(name + " is as it was", was, look.on(x));
            Check.holds("and all else", first.equals(Check.allOf(x)));
            x.goBack(1 - i);
            Check.due(name + " is as it was then", is, look.on(x));
            Check.holds("and all else", then.equals(Check.allOf(x)));
        }
    }

    private static void kicksAreKept() {
        Doc.says(Doc.TERMS, "kicks,");
        for (int c : new int[] {0, 4}) {
            SoupWall x = Check.wallOf(WALL);
            x.damp(9);
            x.buy(c, 0, 3);
            x.keep(1);
            x.kick(c, c == 0 ? 1 : 0);
            x.kick(c, c == 0 ? 1 : 0);
            x.keep(0);
            x.goBack(1);
            Check.due("no kicks in IMAGE 1", 0, x.kick(c, c == 0 ? 0 : 1));
            x.goBack(0);
            Check.due("the kicks of IMAGE 0", 1, x.kick(c, c == 0 ? 0 : 1));
            x.goBack(0);
            Check.due("JAMMED again", 1, x.column(c, 5));
            Check.due("and the same kicks", 1, x.kick(c, c == 0 ? 0 : 1));
        }
    }

    private static void othersAreNot() {
        Doc.says(31, "What is so becomes IMAGE i:");
        SoupWall x = Check.wallOf(WALL);
        Check.feed(x, "slu");
        x.wall();
        x.keep(0);
        x.buyer(4, 0, 1);
        x.attempt(1, 1, true);
        Check.feed(x, "slug");
        x.goBack(0);
        Check.due("BUYERS are not of it", 1, x.told(9));
        Check.due("TRIES are not of it", 1, x.told(10));
        Check.due("THE TEXT is not of it", 4, x.told(3));
        Check.due("the FAULT is not of it", 0, x.fault());
        x.tear();
        x.goBack(0);
        Check.due("BUYERS stay torn", 0, x.told(9));
        x.keep(1);
        x.buy(4, 0, 1);
        x.goBack(1);
        x.goBack(0);
        Check.due("IMAGE 1 is there still", 1, x.goBack(1));
        Check.due("IMAGE 0 is there still", 1, x.goBack(0));
    }

    private static void seed() {
        Doc.says(29, "THE SEED becomes v (0 .. 2147483647): what it was.");
        SoupWall x = new SoupWall();
        Check.due("0 at first", 0, x.seed(2147483647));
        Check.due("the greatest", 2147483647, x.seed(1));
        Check.due("1", 1, x.seed(0));
        Check.due("0", 0, x.seed(0));
        Doc.says(29, "OUTSIDE.");
        x.seed(9);
        Check.due("-1", SoupWall.OUTSIDE, x.seed(-1));
        Check.due("the least number", SoupWall.OUTSIDE, x.seed(Integer.MIN_VALUE));
        Check.due("it stays", 9, x.seed(9));
    }

    private static void keep() {
        Doc.says(30, "IMAGE i becomes what is so: 1.");
        SoupWall x = new SoupWall();
        Check.due("keep(0) of a new object", 1, x.keep(0));
        Check.due("keep(1) of a new object", 1, x.keep(1));
        x = Check.wallOf(WALL);
        x.seed(1);
        x.keep(0);
        x.seed(2);
        Check.due("keep(0) again", 1, x.keep(0));
        x.seed(3);
        x.goBack(0);
        Check.due("the latest is kept", 2, x.seed(3));
        Doc.says(30, "UNKNOWN.");
        Check.due("keep(2)", SoupWall.UNKNOWN, x.keep(2));
        Check.due("keep(-1)", SoupWall.UNKNOWN, x.keep(-1));
    }

    private static void goBack() {
        Doc.says(31, "1.");
        SoupWall x = Check.wallOf(WALL);
        x.keep(0);
        x.keep(1);
        Check.due("goBack(0)", 1, x.goBack(0));
        Check.due("goBack(1)", 1, x.goBack(1));
        Check.due("goBack(1) again", 1, x.goBack(1));
        Doc.says(31, "UNKNOWN,");
        Check.due("goBack(2)", SoupWall.UNKNOWN, x.goBack(2));
        Check.due("goBack(-1)", SoupWall.UNKNOWN, x.goBack(-1));
        Doc.says(31, "NOT: it was not kept.");
        Check.due("a new object", SoupWall.NOT, new SoupWall().goBack(0));
        Check.due("a new object", SoupWall.NOT, new SoupWall().goBack(1));
        x = Check.wallOf(WALL);
        x.keep(1);
        Check.due("the other was", SoupWall.NOT, x.goBack(0));
        x.wall();
        Check.due("it was ahead of wall()", SoupWall.NOT, x.goBack(1));
        x.keep(0);
        Check.due("the other was", SoupWall.NOT, x.goBack(1));
        Check.due("this one was", 1, x.goBack(0));
    }
}
