/** Promises 1 to 4: a new object, feed, wall, fault; the text and its faults. */
public final class TextTest {
    public static void main(String[] args) {
        newObject();
        feeding();
        goodTexts();
        cannotStand();
        numbersOff();
        tooMany();
        clashes();
        leastFaultOfAByte();
        whatAWallDoes();
        wallBehindWall();
        whatAFaultLeaves();
        Check.finish();
    }

    private static void newObject() {
        SoupWall x = new SoupWall();
        for (int what = 0; what <= 11; what++) {
            Check.due("new told(" + what + ")", 0, x.told(what));
        }
        Check.due("new fault()", SoupWall.NONE, x.fault());
        Check.due("new coin(0, 0)", SoupWall.UNKNOWN, x.coin(0, 0));
        Check.due("new column(0, 0)", SoupWall.UNKNOWN, x.column(0, 0));
        Check.due("new seed(0)", 0, x.seed(0));
    }

    private static void feeding() {
        SoupWall x = new SoupWall();
        Check.due("feed(0)", SoupWall.OUTSIDE, x.feed(0, 0));
        Check.due("feed(9)", SoupWall.OUTSIDE, x.feed(9, 0));
        Check.due("feed(-1)", SoupWall.OUTSIDE, x.feed(-1, 0));
        Check.due("told(3) after refused feeds", 0, x.told(3));
        for (int i = 1; i <= 49; i++) {
            Check.due("feed " + i, 8 * i, x.feed(8, Check.bytesOf("        ")));
        }
        Check.due("feed to 399", 399, x.feed(7, Check.bytesOf("slug 5;")));
        Check.due("feed beyond 400", SoupWall.FULL, x.feed(2, 0));
        Check.due("OUTSIDE ahead of FULL", SoupWall.OUTSIDE, x.feed(9, 0));
        Check.due("told(3) after a full feed", 399, x.told(3));
        Check.due("feed to 400", 400, x.feed(1, 32));
        Check.due("feed beyond 400", SoupWall.FULL, x.feed(1, 32));
        Check.due("wall() of 400 bytes", 0, x.wall());
        Check.due("the slug at the end of 400 bytes", 1, x.told(2));
        Check.due("only the low bytes count", 3, x.feed(3, 0x7f7f7f7f7f202020L));
        Check.due("wall() of blanks", 0, x.wall());
    }

    private static void goodTexts() {
        Texts.good("", 0, 0, 0);
        Texts.good("    ", 0, 0, 0);
        Texts.good("coin1 20 3;", 1, 0, 0);
        Texts.good("  coin 1  20 3  ;  slug 7 ;  ", 1, 0, 1);
        Texts.good("coin 001 099 060;column 99 1 99 0;slug 99;slug 1;", 1, 1, 2);
        Texts.good("column 1 5 5 60;kick0lr;", 0, 1, 0);
        Texts.good("column 1 5 5 60;kick 000 rrrrrr;column 2 5 5 0;kick 1l;", 0, 2, 0);
        Texts.good("coin 99 10 0;coin 1 99 60;", 2, 0, 0);
        Texts.good(times("coin 1 20 0;", 5) + times("column 1 5 6 1;", 5) + times("slug 5;", 5), 5, 5, 5);
    }

    private static void cannotStand() {
        Texts.bad("soup 1;", 1, 0);
        Texts.bad(" coins 1 20 3;", 1, 1);
        Texts.bad("coi", 1, 0);
        Texts.bad("Coin 1 20 3;", 1, 0);
        Texts.bad("coiN 1 20 3;", 1, 0);
        Texts.bad("coinslug 1;", 1, 0);
        Texts.bad("coina 1 20 3;", 1, 0);
        Texts.bad("coinz 1 20 3;", 1, 0);
        Texts.bad("coin` 1 20 3;", 1, 4);
        Texts.bad("coin{ 1 20 3;", 1, 4);
        Texts.bad("coin 1/ 20 3;", 1, 6);
        Texts.bad("coin 1: 20 3;", 1, 6);
        Texts.bad(";", 1, 0);
        Texts.bad("slug 5;;", 1, 7);
        Texts.bad("5;", 1, 0);
        Texts.bad("coin", 1, 4);
        Texts.bad("coin  ", 1, 6);
        Texts.bad("coin 1 20 3", 1, 11);
        Texts.bad("coin 1 20 3   ", 1, 14);
        Texts.bad("coin 1 20;", 1, 9);
        Texts.bad("coin 1 x 3;", 1, 7);
        Texts.bad("coin 1 20 3 4;", 1, 12);
        Texts.bad("coin 1 20 3 x;", 1, 12);
        Texts.bad("coin 1,20 3;", 1, 6);
        Texts.bad("coin -1 20 3;", 1, 5);
        Texts.bad("slug\t5;", 1, 4);
        Texts.bad("slug 5;" + (char) 233, 1, 7);
        Texts.bad("slug 5" + (char) 0, 1, 6);
        Texts.bad("column 1 5 6 1;kick lr;", 1, 20);
        Texts.bad("column 1 5 6 1;kick 0;", 1, 21);
        Texts.bad("column 1 5 6 1;kick 0 1;", 1, 22);
        Texts.bad("column 1 5 6 1;kick 0 lR;", 1, 23);
        Texts.bad("column 1 5 6 1;kick 0 l r;", 1, 24);
        Texts.bad("column 1 5 6 1;kick 0 l 0;", 1, 24);
        Texts.bad("column 1 5 6 1;kick 0 l", 1, 23);
    }

    private static void numbersOff() {
        Texts.bad("coin 0 20 3;", 2, 5);
        Texts.bad("coin 100 20 3;", 2, 5);
        Texts.bad("coin 1 9 3;", 2, 7);
        Texts.bad("coin 1 100 3;", 2, 7);
        Texts.bad("coin 1 20 61;", 2, 10);
        Texts.bad("coin 0001 20 3;", 2, 5);
        Texts.bad("coin 99999999999999999999 20 3;", 2, 5);
        Texts.bad("coin 4294967297 20 3;", 2, 5);
        Texts.bad("column 0 5 6 1;", 2, 7);
        Texts.bad("column 100 5 6 1;", 2, 7);
        Texts.bad("column 1 0 6 1;", 2, 9);
        Texts.bad("column 1 100 6 1;", 2, 9);
        Texts.bad("column 1 5 100 1;", 2, 11);
        Texts.bad("column 1 5 6 61;", 2, 13);
        Texts.bad("column 1 5 6 0000;", 2, 13);
        Texts.bad("slug 0;", 2, 5);
        Texts.bad("slug 100;", 2, 5);
        Texts.bad("kick 0 l;", 2, 5);
        Texts.bad("kick 0", 2, 5);
        Texts.bad("column 1 5 6 1;kick 1 l;", 2, 20);
        Texts.bad("column 1 5 6 1;kick 0000 l;", 2, 20);
        Texts.bad("coin 1 20 1;kick 0 l;column 1 5 6 1;", 2, 17);
    }

    private static void tooMany() {
        Texts.bad(times("coin 1 20 0;", 6), 3, 60);
        Texts.bad(times("coin 1 20 0;", 5) + " coin", 3, 61);
        Texts.bad(times("coin 1 20 0;", 5) + "coin x", 3, 60);
        Texts.bad(times("coin 1 20 0;", 5) + "coinx", 1, 60);
        Texts.bad(times("column 1 5 6 1;", 6), 3, 75);
        Texts.bad(times("slug 5;", 6), 3, 35);
    }

    private static void clashes() {
        Texts.bad("column 1 6 5 1;", 4, 11);
        Texts.bad("column 1 6 5", 4, 11);
        Texts.bad("column 1 6 005 x", 4, 11);
        Texts.bad("column 1 5 6 1;kick 0 l;kick 0 l;", 4, 29);
        Texts.bad("column 1 5 6 1;kick 0 l;kick 00 x", 4, 29);
        Texts.bad("column 1 5 6 1;kick 0 lrlrlrl;", 4, 22);
        Texts.bad("column 1 5 6 1;kick 0 lrx;", 4, 22);
        Texts.bad("column 1 5 6 1;kick 0 coin", 4, 22);
        Texts.bad("column 1 5 6 1;kick 0 la;", 4, 22);
        Texts.bad("column 1 5 6 1;kick 0 zr;", 4, 22);
    }

    private static void leastFaultOfAByte() {
        Texts.bad("column 1 6 0 1;", 2, 11);
        Texts.bad("column 1 6 0005 1;", 2, 11);
        Texts.bad("coin 1 20 3 4444;", 1, 12);
        Texts.bad("column 1 5 6 1;kick 0 l;kick 0000 l;", 2, 29);
    }

    private static void whatAWallDoes() {
        SoupWall x = Check.wallOf("coin 5 30 2;column 3 20 40 9;slug 33;");
        x.damp(9);
        x.wear(4);
        x.tube(0, 60);
        x.buy(0, 0, 2);
        x.stock(0, 1);
        x.wire(0, 0);
        x.buyer(0, 0, 1);
        x.attempt(1, 1, true);
        x.seed(77);
        x.keep(0);
        x.keep(1);
        Check.feed(x, "coin 5 30 2;column 3 20 40 9;");
        Check.due("wall() again", 1, x.wall());
        int[] told = {1, 1, 0, 0, 0, 0, 0, 0, 0, 0, 0, 10};
        for (int what = 0; what < told.length; what++) {
            Check.due("told(" + what + ") of a new wall", told[what], x.told(what));
        }
        Check.due("goods of a new wall", 9, x.column(0, 3));
        Check.due("stick of a new wall", 0, x.column(0, 4));
        Check.due("images are gone", SoupWall.NOT, x.goBack(0));
        Check.due("images are gone", SoupWall.NOT, x.goBack(1));
        Check.due("the seed stays", 77, x.seed(0));
        Check.due("wall() of no text", 0, x.wall());
        Check.due("columns of no text", 0, x.told(1));
    }

    /** Each wall is like that of a new object, however many came ahead of it. */
    private static void wallBehindWall() {
        String full = "coin 5 30 60;coin 6 31 60;column 3 20 40 9;column 4 20 40 9;slug 33;slug 34;kick 0 rr;kick 1 r;";
        String small = "coin 5 30 2;column 3 20 40 9;";
        String fresh = Check.allOf(Check.wallOf(small));
        SoupWall x = new SoupWall();
        for (int i = 0; i < 4; i++) {
            Check.feed(x, full);
            Check.due("wall() of the full one", 2, x.wall());
            x.damp(9);
            x.wear(1);
            x.buy(0, 0, 2);
            x.buy(1, 1, 2);
            x.kick(0, 1);
            Check.feed(x, i % 2 == 0 ? "coin 5 30 60;coin 5 30 60;column 3 20 40 9;kick 0 rrr;slug" : "");
            x.wall();
            Check.feed(x, small);
            Check.due("wall() of the small one", 1, x.wall());
            Check.holds("it is like a new one", fresh.equals(Check.allOf(x)));
            x.damp(9);
            x.buy(0, 0, 2);
            Check.due("its rhythm is l again", 1, x.kick(0, 0));
        }
    }

    private static void whatAFaultLeaves() {
        SoupWall x = Check.wallOf("coin 5 30 2;column 3 20 40 9;slug 33;kick 0 rr;");
        x.damp(9);
        x.buy(0, 0, 2);
        x.kick(0, 1);
        x.buyer(0, 0, 1);
        x.attempt(1, 1, true);
        x.keep(1);
        String before = Check.allOf(x);
        Check.feed(x, "coin 7 35 7;column 8 1 2 3;kick 0 l;slug 0;");
        Check.due("wall() of a faulty text", -12, x.wall());
        Check.due("fault()", 41, x.fault());
        Check.due("the text is empty then", 0, x.told(3));
        Check.feed(x, " ");
        Check.due("fault() stays until the next wall()", 41, x.fault());
        Check.holds("all is as it was", sameButFault(x, before));
        Check.due("the image stays", 1, x.goBack(1));
        Check.due("the rhythm stays", 1, x.kick(0, 1));
        Check.due("wall() of a blank", 0, x.wall());
        Check.due("fault() of a good wall", SoupWall.NONE, x.fault());
    }

    /** The fed blank and the fault's byte are the two things that differ. */
    private static boolean sameButFault(SoupWall x, String before) {
        String[] was = before.split(" ");
        String[] is = Check.allOf(x).split(" ");
        was[3] = "1";
        was[was.length - 1] = "41";
        return java.util.Arrays.equals(was, is);
    }

    private static String times(String clause, int n) {
        return clause.repeat(n);
    }
}
