/** Part 1 of the document: the text and its faults. */
final class TextTold {
    private static final String COLUMN = "column 1 5 6 1;";

    private TextTold() {
    }

    static void run() {
        theText();
        coinClauses();
        columnClauses();
        slugClauses();
        kickClauses();
        rhythms();
        numbersAndWords();
        blanks();
        whereFaultsStand();
        faultOne();
        faultTwo();
        faultThree();
        faultFour();
    }

    private static void theText() {
        Doc.says(Doc.TERMS, "1 THE WALL is told in a text (400 bytes at most):");
        Texts.good(" ".repeat(393) + "slug 9;", 0, 0, 1);
        SoupWall x = new SoupWall();
        Check.feed(x, " ".repeat(400));
        Check.due("a 401st byte", SoupWall.FULL, x.feed(1, ' '));
        Check.due("400 bytes", 400, x.told(3));
        Texts.bad(" ".repeat(393) + "slug 9,", 1, 399);
        Texts.bad(" ".repeat(392) + "slug 100", 2, 397);
        Texts.bad(" ".repeat(394) + "slug 9", 1, 400);
        Doc.says(Doc.TERMS, "clauses:");
        Texts.good("", 0, 0, 0);
        Texts.good(" ", 0, 0, 0);
        Texts.good("slug 9;coin 1 20 3;slug 9;column 1 5 6 1;coin 1 20 3;", 2, 1, 2);
        Texts.bad(";", 1, 0);
        Texts.bad("slug 9;;slug 9;", 1, 7);
    }

    private static void coinClauses() {
        Doc.says(Doc.TERMS, "'coin' V W N ';'");
        SoupWall x = Check.wallOf("coin 7 31 5;");
        Check.due("V", 7, x.coin(0, 0));
        Check.due("W", 31, x.coin(0, 1));
        Check.due("N", 5, x.coin(0, 3));
        Texts.bad("coin;", 1, 4);
        Texts.bad("coin 7;", 1, 6);
        Texts.bad("coin 7 31;", 1, 9);
        Texts.bad("coin 7 31 5 5;", 1, 12);
        Texts.bad("coin 7 31 5 slug 9;", 1, 12);
        Doc.says(Doc.TERMS, "5 KINDS at most:");
        Texts.good("coin 7 31 5;".repeat(5), 5, 0, 0);
        Texts.bad("coin 7 31 5;".repeat(6), 3, 60);
        Doc.says(Doc.TERMS, "VALUE V 1 .. 99,");
        Texts.bad("coin 0 31 5;", 2, 5);
        Texts.good("coin 1 31 5;", 1, 0, 0);
        Texts.good("coin 99 31 5;", 1, 0, 0);
        Texts.bad("coin 100 31 5;", 2, 5);
        Doc.says(Doc.TERMS, "WEIGHT W 10 .. 99;");
        Texts.bad("coin 7 9 5;", 2, 7);
        Texts.good("coin 7 10 5;", 1, 0, 0);
        Texts.good("coin 7 99 5;", 1, 0, 0);
        Texts.bad("coin 7 100 5;", 2, 7);
        Doc.says(Doc.TERMS, "N of them, 0 .. 60, in its TUBE)");
        Check.due("an empty TUBE", 0, Check.wallOf("coin 7 31 0;").coin(0, 3));
        Check.due("a full TUBE", 60, Check.wallOf("coin 7 31 60;").coin(0, 3));
        Texts.bad("coin 7 31 61;", 2, 10);
    }

    private static void columnClauses() {
        Doc.says(Doc.TERMS, "'column' P A B G ';'");
        SoupWall x = Check.wallOf("column 7 31 55 4;");
        Check.due("P", 7, x.column(0, 0));
        Check.due("A", 31, x.column(0, 1));
        Check.due("B", 55, x.column(0, 2));
        Check.due("G", 4, x.column(0, 3));
        Texts.bad("column;", 1, 6);
        Texts.bad("column 7;", 1, 8);
        Texts.bad("column 7 31;", 1, 11);
        Texts.bad("column 7 31 55;", 1, 14);
        Texts.bad("column 7 31 55 4 4;", 1, 17);
        Doc.says(Doc.TERMS, "(5 COLUMNS at most:");
        Texts.good(COLUMN.repeat(5), 0, 5, 0);
        Texts.bad(COLUMN.repeat(6), 3, 75);
        Doc.says(Doc.TERMS, "PRICE P 1 .. 99;");
        Texts.bad("column 0 31 55 4;", 2, 7);
        Texts.good("column 1 31 55 4;", 0, 1, 0);
        Texts.good("column 99 31 55 4;", 0, 1, 0);
        Texts.bad("column 100 31 55 4;", 2, 7);
        Doc.says(Doc.TERMS, "SPAN A to B, 1 .. 99 both, B not below A;");
        Texts.bad("column 7 0 55 4;", 2, 9);
        Texts.good("column 7 1 55 4;", 0, 1, 0);
        Texts.good("column 7 1 1 4;", 0, 1, 0);
        Texts.bad("column 7 1 0 4;", 2, 11);
        Texts.good("column 7 1 99 4;", 0, 1, 0);
        Texts.good("column 7 99 99 4;", 0, 1, 0);
        Texts.bad("column 7 100 100 4;", 2, 9);
        Texts.bad("column 7 1 100 4;", 2, 11);
        Texts.good("column 7 31 31 4;", 0, 1, 0);
        Texts.bad("column 7 31 30 4;", 4, 12);
        Doc.says(Doc.TERMS, "G GOODS, 0 .. 60)");
        Check.due("no GOODS", 0, Check.wallOf("column 7 31 55 0;").column(0, 3));
        Check.due("all GOODS", 60, Check.wallOf("column 7 31 55 60;").column(0, 3));
        Texts.bad("column 7 31 55 61;", 2, 15);
    }

    private static void slugClauses() {
        Doc.says(Doc.TERMS, "'slug' W ';'");
        Texts.good("slug 33;", 0, 0, 1);
        Texts.bad("slug;", 1, 4);
        Texts.bad("slug 33 33;", 1, 8);
        Doc.says(Doc.TERMS, "(5 at most:");
        Texts.good("slug 33;".repeat(5), 0, 0, 5);
        Texts.bad("slug 33;".repeat(6), 3, 40);
        Doc.says(Doc.TERMS, "weight W 1 .. 99)");
        Texts.bad("slug 0;", 2, 5);
        Texts.good("slug 1;", 0, 0, 1);
        Texts.good("slug 99;", 0, 0, 1);
        Texts.bad("slug 100;", 2, 5);
    }

    private static void kickClauses() {
        Doc.says(Doc.TERMS, "'kick' C ROW ';'");
        Texts.good(COLUMN + "kick 0 lr;", 0, 1, 0);
        Texts.bad(COLUMN + "kick;", 1, 19);
        Texts.bad(COLUMN + "kick lr;", 1, 20);
        Texts.bad(COLUMN + "kick 0;", 1, 21);
        Texts.bad(COLUMN + "kick 0 0;", 1, 22);
        Texts.bad(COLUMN + "kick 0 lr", 1, 24);
        Texts.bad(COLUMN + "kick 0 lr lr;", 1, 25);
        Doc.says(Doc.TERMS, "(COLUMN C told ahead, once each:");
        Texts.bad("kick 0 lr;" + COLUMN, 2, 5);
        Texts.bad(COLUMN + "kick 1 lr;" + COLUMN, 2, 20);
        Texts.good(COLUMN + "kick 0 lr;" + COLUMN + "kick 1 lr;", 0, 2, 0);
        Texts.good(COLUMN.repeat(5) + "kick 4 l;kick 3 r;kick 2 l;kick 1 l;kick 0 l;", 0, 5, 0);
        Texts.bad(COLUMN.repeat(5) + "kick 5 l;", 2, 80);
        Texts.bad(COLUMN + "kick 0 lr;kick 0 lr;", 4, 30);
        Texts.bad(COLUMN + "kick 0 lr;" + COLUMN + "kick 0 r;", 4, 45);
    }

    private static void rhythms() {
        Doc.says(Doc.TERMS, "its RHYTHM is ROW, a word of 1 to 6 letters l or r;");
        for (String row : new String[] {"l", "r", "lr", "rl", "rrl", "lllr", "rlrll", "lrrrrr", "rlllll", "rrrrrr", "llllll"}) {
            SoupWall x = Check.wallOf("coin 9 20 0;column 1 1 99 9;column 1 1 99 9;kick 1 " + row + ";");
            x.damp(9);
            x.buy(1, 0, 2);
            for (int i = 0; i < row.length(); i++) {
                Check.due("kick " + i + " of " + row, i == row.length() - 1 ? 1 : 0, x.kick(1, row.charAt(i) == 'r' ? 1 : 0));
            }
        }
        Texts.bad(COLUMN + "kick 0 lrlrlrl;", 4, 22);
        Doc.says(Doc.TERMS, "l untold).");
        SoupWall x = Check.wallOf("coin 9 20 0;" + "column 1 1 99 9;".repeat(5) + "kick 2 r;");
        x.damp(9);
        for (int c : new int[] {0, 1, 3, 4}) {
            x.buy(c, 0, 2);
            Check.due("r is not it", 0, x.kick(c, 1));
            Check.due("l is it", 1, x.kick(c, 0));
        }
    }

    private static void numbersAndWords() {
        Doc.says(Doc.TERMS, "NUMBERS have one to three figures;");
        Texts.good("coin 1 20 3;", 1, 0, 0);
        Texts.good("coin 01 20 03;", 1, 0, 0);
        Texts.good("coin 001 020 003;", 1, 0, 0);
        Check.due("010 is ten", 10, Check.wallOf("coin 010 020 003;").coin(0, 0));
        Check.due("000 is no coin", 0, Check.wallOf("coin 010 020 000;").coin(0, 3));
        Texts.bad("coin 0001 20 3;", 2, 5);
        Texts.bad("coin 1 20 0000;", 2, 10);
        Doc.says(Doc.TERMS, "words are letters a .. z side by side;");
        Texts.bad("`coin 1 20 3;", 1, 0);
        Texts.bad("{coin 1 20 3;", 1, 0);
        Texts.bad("coin` 1 20 3;", 1, 4);
        Texts.bad("coin{ 1 20 3;", 1, 4);
        Texts.bad("coin@ 1 20 3;", 1, 4);
        Texts.bad("Coin 1 20 3;", 1, 0);
        Texts.bad("coiN 1 20 3;", 1, 0);
        Texts.bad("aoin 1 20 3;", 1, 0);
        Texts.bad("coia 1 20 3;", 1, 0);
        Texts.bad("acoin 1 20 3;", 1, 0);
        Texts.bad("coinz 1 20 3;", 1, 0);
        Texts.bad("coi 1 20 3;", 1, 0);
        Texts.bad("columns 1 5 6 1;", 1, 0);
        Texts.bad("slugs 1;", 1, 0);
        Texts.bad(COLUMN + "kicks 0 l;", 1, 15);
        Texts.bad("zcolumn", 1, 0);
    }

    private static void blanks() {
        Doc.says(Doc.TERMS, "blanks (32) may stand anywhere but within words and NUMBERS;");
        Texts.good("   coin   1   20   3   ;   column   1   5   6   1   ;   slug   9   ;   kick   0   lr   ;   ", 1, 1, 1);
        Texts.good("coin1 20 3;column1 5 6 1;slug9;kick0lr;", 1, 1, 1);
        Texts.bad("co in 1 20 3;", 1, 0);
        Texts.bad("coin 1 2 0 3;", 2, 7);
        Texts.bad("coin 1 20 3 0;", 1, 12);
        Texts.bad(COLUMN + "kick 0 l r;", 1, 24);
        for (int other : new int[] {0, 9, 10, 13, 31, 33, 127, 128, 160, 255}) {
            Texts.bad("slug" + (char) other + "9;", 1, 4);
            Texts.bad("slug 9;" + (char) other, 1, 7);
            Texts.bad((char) other + "slug 9;", 1, 0);
        }
        Doc.says(Doc.TERMS, "two words, two NUMBERS side by side need one.");
        Texts.bad("coinslug 9;", 1, 0);
        Texts.bad("coin slug 9;", 1, 5);
        Texts.bad("coin 120 3;", 2, 5);
        Texts.bad("coin 1 203;", 2, 7);
        Texts.good("coin 1 20 3;", 1, 0, 0);
    }

    private static void whereFaultsStand() {
        Doc.says(Doc.TERMS, "FAULTS, at the first byte that has one");
        Texts.bad("slug 0;slug 100;soup;", 2, 5);
        Texts.bad("soup 100;slug 0;", 1, 0);
        Texts.bad("column 100 6 5 61;", 2, 7);
        Texts.bad("column 1 6 5 61;", 4, 11);
        Texts.bad("slug 9;".repeat(5) + "slug 0;", 3, 35);
        Texts.bad(COLUMN + "kick 0 l;kick 0 x;", 4, 29);
        Texts.bad(COLUMN + "kick 0 x;kick 0 l;", 4, 22);
        Texts.bad(COLUMN + "kick 1 x;", 2, 20);
        Doc.says(Doc.TERMS, "(the end at the text's length),");
        Texts.bad("coin", 1, 4);
        Texts.bad("coin 1", 1, 6);
        Texts.bad("coin 1 20", 1, 9);
        Texts.bad("coin 1 20 3", 1, 11);
        Texts.bad("coin 1 20 3    ", 1, 15);
        Texts.bad("slug 9;slug", 1, 11);
        Texts.bad(COLUMN + "kick 0", 1, 21);
        Texts.bad(COLUMN + "kick 0 l", 1, 23);
        Texts.bad("slug 0", 2, 5);
        shorterThanBefore();
        Doc.says(Doc.TERMS, "of these the least:");
        Texts.bad("slug 9 1000;", 1, 7);
        Texts.bad("slug 9 slug;", 1, 7);
        Texts.bad(COLUMN + "kick 0 l x;", 1, 24);
        Texts.bad("slug 9;".repeat(5) + "1000;", 1, 35);
        Texts.bad("slug 9;".repeat(5) + "slugs 9;", 1, 35);
        Texts.bad("column 1 6 0 1;", 2, 11);
        Texts.bad("column 1 6 0005 1;", 2, 11);
        Texts.bad("column 1 99 100 1;", 2, 12);
        Texts.bad(COLUMN + "kick 0 l;kick 0000 l;", 2, 29);
    }

    /** What an earlier text had behind the end of this one is not read. */
    private static void shorterThanBefore() {
        String text = "coin 1 20 3;" + COLUMN + "slug 9;kick 0 lr; ";
        for (int length = 0; length < text.length(); length++) {
            SoupWall x = Check.wallOf(text);
            SoupWall y = new SoupWall();
            Check.feed(x, text.substring(0, length));
            Check.feed(y, text.substring(0, length));
            Check.due("wall() of " + length + " bytes behind a longer text", y.wall(), x.wall());
            Check.due("fault() of " + length + " bytes behind a longer text", y.fault(), x.fault());
            char last = length == 0 ? ';' : text.charAt(length - 1);
            Check.holds("a clause has its ';'", (y.fault() == SoupWall.NONE) == (last == ';'));
        }
    }

    private static void faultOne() {
        Doc.says(Doc.TERMS, "1 it cannot stand there");
        Texts.bad("9;", 1, 0);
        Texts.bad("coin x 20 3;", 1, 5);
        Texts.bad("coin 1 x 3;", 1, 7);
        Texts.bad("coin 1 20 x;", 1, 10);
        Texts.bad("coin 1;20 3;", 1, 6);
        Texts.bad("coin 1,20 3;", 1, 6);
        Texts.bad("coin -1 20 3;", 1, 5);
        Texts.bad("coin +1 20 3;", 1, 5);
        Texts.bad("coin / 20 3;", 1, 5);
        Texts.bad("coin : 20 3;", 1, 5);
        Texts.bad("coin 1/ 20 3;", 1, 6);
        Texts.bad("coin 1: 20 3;", 1, 6);
        Texts.bad("slug 9.", 1, 6);
        Texts.bad(COLUMN + "kick 0 ;", 1, 22);
        Texts.bad(COLUMN + "kick 0 L;", 1, 22);
        Texts.bad(COLUMN + "kick 0 lR;", 1, 23);
        Doc.says(Doc.TERMS, "(a word that cannot: at its first letter).");
        Texts.bad("  soup 9;", 1, 2);
        Texts.bad("slug 9;soup", 1, 7);
        Texts.bad("coin abc 20 3;", 1, 5);
        Texts.bad("coin 1abc 20 3;", 1, 6);
        Texts.bad("slug 9 ;  coi", 1, 10);
        Texts.bad("slug 9 kick;", 1, 7);
        Texts.bad("l 9;", 1, 0);
    }

    private static void faultTwo() {
        Doc.says(Doc.TERMS, "2 a NUMBER of four figures or more,");
        Texts.bad("coin 0007 31 5;", 2, 5);
        Texts.bad("coin 7 0031 5;", 2, 7);
        Texts.bad("coin 7 31 0005;", 2, 10);
        Texts.bad("column 0007 31 55 4;", 2, 7);
        Texts.bad("column 7 0031 55 4;", 2, 9);
        Texts.bad("column 7 31 0055 4;", 2, 12);
        Texts.bad("column 7 31 55 0004;", 2, 15);
        Texts.bad("slug 0033;", 2, 5);
        Texts.bad(COLUMN + "kick 0000 l;", 2, 20);
        Texts.bad("slug 00000000000000000000000000000000033;", 2, 5);
        Texts.bad("slug 4294967329;", 2, 5);
        Texts.bad("slug 18446744073709551649;", 2, 5);
        Texts.bad("slug " + "9".repeat(395), 2, 5);
        Doc.says(Doc.TERMS, "or out of its bounds;");
        Texts.bad("coin 999 31 5;", 2, 5);
        Texts.bad("coin 000 31 5;", 2, 5);
        Texts.bad("coin 7 000 5;", 2, 7);
        Texts.bad("coin 7 31 100;", 2, 10);
        Texts.bad("column 7 31 55 999;", 2, 15);
        Texts.bad("slug 00;", 2, 5);
        Doc.says(Doc.TERMS, "a COLUMN that was not told yet (at its first).");
        Texts.bad("kick 0 l;", 2, 5);
        Texts.bad("kick  000 l;", 2, 6);
        Texts.bad("coin 1 20 3;slug 9;kick 0 l;", 2, 24);
        Texts.bad(COLUMN + "kick 1 l;", 2, 20);
        Texts.bad(COLUMN + "kick 10 l;", 2, 20);
        Texts.bad(COLUMN + "kick 999 l;", 2, 20);
    }

    private static void faultThree() {
        Doc.says(Doc.TERMS, "3 a sixth 'coin', 'column', 'slug' (at its first letter).");
        String five = "coin 1 20 3;".repeat(5) + COLUMN.repeat(5) + "slug 9;".repeat(5);
        Texts.good(five, 5, 5, 5);
        Texts.bad(five + "coin 1 20 3;", 3, 170);
        Texts.bad(five + " column 1 5 6 1;", 3, 171);
        Texts.bad(five + "  slug 9;", 3, 172);
        Texts.bad(five + "coin", 3, 170);
        Texts.bad(five + "column ;", 3, 170);
        Texts.bad(five + "slug slug", 3, 170);
        Texts.good(five + "kick 4 l;", 5, 5, 5);
    }

    private static void faultFour() {
        Doc.says(Doc.TERMS, "4 B below A (at it);");
        Texts.bad("column 1 6 5 1;", 4, 11);
        Texts.bad("column 1 99  1 1;", 4, 13);
        Texts.bad("column 1 6 005", 4, 11);
        Texts.bad("column 1 6 5;", 4, 11);
        Doc.says(Doc.TERMS, "'kick' of a COLUMN again (at its C);");
        Texts.bad(COLUMN + "kick 0 l;kick 0 l;", 4, 29);
        Texts.bad(COLUMN + "kick 0 l;kick  00 r;", 4, 30);
        Texts.bad(COLUMN + "kick 0 l;kick 0", 4, 29);
        Texts.bad(COLUMN.repeat(2) + "kick 1 l;kick 0 l;kick 1 l;", 4, 53);
        Doc.says(Doc.TERMS, "a ROW with other letters,");
        Texts.bad(COLUMN + "kick 0 a;", 4, 22);
        Texts.bad(COLUMN + "kick 0 lrk;", 4, 22);
        Texts.bad(COLUMN + "kick 0 mlr;", 4, 22);
        Texts.bad(COLUMN + "kick 0 lqr;", 4, 22);
        Texts.bad(COLUMN + "kick 0 slug", 4, 22);
        Doc.says(Doc.TERMS, "of seven or more (at its first).");
        Texts.good(COLUMN + "kick 0 rrrrrr;", 0, 1, 0);
        Texts.bad(COLUMN + "kick 0 rrrrrrr;", 4, 22);
        Texts.bad(COLUMN + "kick 0   lllllllllllllllllllllll", 4, 24);
        Texts.bad(COLUMN + "kick 0 " + "l".repeat(378), 4, 22);
    }
}
