/** Part 2 of the document: weights, sales, change, stick and kicks. */
final class SalesTold {
    private SalesTold() {
    }

    static void run() {
        weights();
        buttons();
        whatASaleNeeds();
        whatASaleTakes();
        change();
        changeOfLikeOnes();
        asManyAsThereAre();
        stampsAreLeft();
        sticking();
        kicking();
        rhythmsInTheLastKicks();
        kicksSinceItJammed();
    }

    private static void weights() {
        Doc.says(Doc.TERMS, "2 WEIGHT NOW of a KIND: W less how WORN all is (0 at first; 0 .. 9).");
        SoupWall x = Check.wallOf("coin 1 10 0;coin 1 99 0;column 1 1 99 9;slug 10;");
        Check.due("WORN at first", 0, x.told(8));
        Check.due("W", 10, x.coin(0, 2));
        x.wear(9);
        Check.due("10 less 9", 1, x.coin(0, 2));
        Check.due("99 less 9", 90, x.coin(1, 2));
        Check.due("W stays", 10, x.coin(0, 1));
        Check.due("WORN 10", SoupWall.OUTSIDE, x.wear(10));
        Check.due("WORN -1", SoupWall.OUTSIDE, x.wear(-1));
        x.span(0, 10, 10);
        Check.due("slugs are not worn", 1, x.column(0, 8));
        Doc.says(Doc.TERMS, "A KIND PASSES a COLUMN, if its WEIGHT NOW is in the SPAN.");
        x = Check.wallOf("coin 1 19 0;coin 1 20 0;coin 1 25 0;coin 1 30 0;coin 1 31 0;column 1 20 30 9;column 1 25 25 9;");
        int[] passed = {0, 1, 3, 1, 0};
        for (int k = 0; k < 5; k++) {
            Check.due("COLUMNS passed by " + k, passed[k], x.coin(k, 4));
            Check.due("buy with " + k, (passed[k] & 1) == 1 ? 0 : SoupWall.NOT, x.buy(0, k, 1));
        }
        x.wear(1);
        Check.due("18 to 30: 19 and 31 less 1", 0b11100, x.column(0, 7));
        Check.due("30 is in it now", 0, x.buy(0, 4, 1));
        Check.due("19 is not any more", SoupWall.NOT, x.buy(0, 1, 1));
        x.span(0, 1, 1);
        Check.due("none", 0, x.column(0, 7));
        Check.due("24 is not in 25 to 25", SoupWall.NOT, x.buy(1, 2, 1));
    }

    private static void buttons() {
        Doc.says(Doc.TERMS, "The BUTTON of a COLUMN gives GOODS of the COLUMN to which it is WIRED");
        SoupWall x = Check.wallOf("coin 1 20 0;column 3 15 25 2;column 8 50 60 2;column 9 20 20 0;");
        x.wire(0, 1);
        Check.due("it is sold", 0, x.buy(0, 0, 3));
        Check.due("GOODS of the other", 1, x.column(1, 3));
        Check.due("its own GOODS", 2, x.column(0, 3));
        x.wire(1, 2);
        Check.due("one wire is gone along, not two", 0, x.buy(0, 0, 3));
        Check.due("GOODS of the other", 0, x.column(1, 3));
        Check.due("no more of them", SoupWall.NOT, x.buy(0, 0, 3));
        Doc.says(Doc.TERMS, "(its own at first),");
        x = Check.wallOf("coin 1 20 0;" + "column 1 1 99 9;".repeat(5));
        for (int c = 0; c < 5; c++) {
            Check.due("WIRED at first", c, x.column(c, 6));
            x.buy(c, 0, 1);
            Check.due("GOODS of its own", 8, x.column(c, 3));
        }
        Doc.says(Doc.TERMS, "at its own PRICE.");
        x = Check.wallOf("coin 1 20 0;column 3 15 25 2;column 8 15 25 2;");
        x.wire(0, 1);
        x.wire(1, 0);
        Check.due("3 is enough", 0, x.buy(0, 0, 3));
        Check.due("2 is not", SoupWall.NOT, x.buy(0, 0, 2));
        Check.due("7 is not enough for the other", SoupWall.NOT, x.buy(1, 0, 7));
        Check.due("8 is", 0, x.buy(1, 0, 8));
    }

    private static void whatASaleNeeds() {
        Doc.says(Doc.TERMS, "A SALE (COLUMN, KIND, n coins of it): it is made,");
        SoupWall x = Check.wallOf("coin 1 20 0;coin 2 20 0;column 4 20 20 9;column 6 20 20 9;");
        Check.due("4 of 1", 0, x.buy(0, 0, 4));
        Check.due("3 of 2", 0, x.buy(1, 1, 3));
        Check.due("GOODS of 0", 8, x.column(0, 3));
        Check.due("GOODS of 1", 8, x.column(1, 3));
        Check.due("SALES", 2, x.told(6));
        Doc.says(Doc.TERMS, "if the COLUMN is not JAMMED,");
        x.damp(2);
        x.buy(0, 0, 4);
        Check.due("8 is not JAMMED", 0, x.buy(0, 0, 4));
        String before = Check.allOf(x);
        Check.due("16 is JAMMED", SoupWall.NOT, x.buy(0, 0, 4));
        Check.holds("nothing is sold", before.equals(Check.allOf(x)));
        x.wire(1, 0);
        Check.due("the other BUTTON still gives its GOODS", 0, x.buy(1, 1, 3));
        Doc.says(Doc.TERMS, "the KIND PASSES,");
        x = Check.wallOf("coin 9 20 0;column 9 21 99 9;column 9 1 19 9;column 9 20 20 9;");
        Check.due("too light", SoupWall.NOT, x.buy(0, 0, 1));
        Check.due("too heavy", SoupWall.NOT, x.buy(1, 0, 1));
        Check.due("just it", 0, x.buy(2, 0, 1));
        Doc.says(Doc.TERMS, "n times VALUE is PRICE or more,");
        x = Check.wallOf("coin 3 20 0;column 9 1 99 9;column 1 1 99 9;");
        Check.due("6", SoupWall.NOT, x.buy(0, 0, 2));
        Check.due("9", 0, x.buy(0, 0, 3));
        Check.due("12", 3, x.buy(0, 0, 4));
        Check.due("3 for 1", 0, x.buy(1, 0, 1));
        Doc.says(Doc.TERMS, "and there are GOODS of that to which it is WIRED:");
        x = Check.wallOf("coin 1 20 0;column 1 1 99 1;column 1 1 99 0;");
        Check.due("none of its own", SoupWall.NOT, x.buy(1, 0, 1));
        x.wire(1, 0);
        Check.due("one of the other", 0, x.buy(1, 0, 1));
        Check.due("that was the last", SoupWall.NOT, x.buy(1, 0, 1));
        x.stock(1, 60);
        Check.due("its own do not help", SoupWall.NOT, x.buy(1, 0, 1));
    }

    private static void whatASaleTakes() {
        Doc.says(Doc.TERMS, "one of these less;");
        SoupWall x = Check.wallOf("coin 1 20 58;column 1 1 99 60;column 3 1 99 60;");
        x.wire(1, 0);
        x.buy(1, 0, 3);
        Check.due("GOODS of that to which it is WIRED", 59, x.column(0, 3));
        Check.due("GOODS of its own", 60, x.column(1, 3));
        Doc.says(Doc.TERMS, "the coins come to the TUBE of the KIND");
        x = Check.wallOf("coin 1 20 50;coin 1 20 50;column 10 1 99 60;");
        x.buy(0, 0, 10);
        Check.due("50 and 10", 60, x.coin(0, 3));
        Check.due("the other TUBE", 50, x.coin(1, 3));
        Check.due("60 are not too many", 0, x.told(4));
        x.tube(0, 0);
        Check.due("they are there for CHANGE", 5, x.buy(0, 0, 15));
        Check.due("15 less 5", 10, x.coin(0, 3));
        Doc.says(Doc.TERMS, "(what is above 60 in it is LOST);");
        x = Check.wallOf("coin 1 20 60;coin 2 20 51;column 1 1 99 60;column 20 1 99 60;column 99 1 99 60;");
        x.buy(0, 0, 1);
        Check.due("one is LOST", 1, x.told(4));
        Check.due("the TUBE", 60, x.coin(0, 3));
        x.buy(1, 1, 10);
        Check.due("one more", 2, x.told(4));
        Check.due("the TUBE of the other", 60, x.coin(1, 3));
        x.buy(2, 0, 99);
        Check.due("all 99", 101, x.told(4));
        x.tube(1, 0);
        Check.due("LOST ahead of CHANGE: 60 of 98", 60, x.buy(0, 0, 99));
        Check.due("the TUBE is empty", 0, x.coin(0, 3));
        Check.due("38 STAMPS", 38, x.told(5));
        Check.due("99 more are LOST", 200, x.told(4));
    }

    private static void change() {
        Doc.says(Doc.TERMS, "CHANGE: n times VALUE less PRICE:");
        SoupWall x = Check.wallOf("coin 1 20 60;coin 7 20 0;column 15 1 99 60;");
        Check.due("21 less 15", 6, x.buy(0, 1, 3));
        Check.due("15 less 15", 0, x.buy(0, 0, 15));
        Check.due("coins of 1: 54 and 15, 9 LOST", 60, x.coin(0, 3));
        Check.due("9 LOST", 9, x.told(4));
        Doc.says(Doc.TERMS, "KIND by KIND, the greatest VALUE first");
        x = Check.wallOf("coin 2 20 9;coin 6 21 1;coin 5 22 9;coin 30 23 0;coin 1 24 9;column 15 23 23 60;");
        Check.due("6, 5, 2, 2", 15, x.buy(0, 3, 1));
        tubes(x, 7, 0, 8, 1, 9);
        Check.due("5, 5, 5", 15, x.buy(0, 3, 1));
        tubes(x, 7, 0, 5, 2, 9);
        x.tube(2, 0);
        Check.due("seven of 2, then 1", 15, x.buy(0, 3, 1));
        tubes(x, 0, 0, 0, 3, 8);
    }

    private static void changeOfLikeOnes() {
        Doc.says(Doc.TERMS, "(of like ones the least KIND),");
        SoupWall x = Check.wallOf("coin 1 20 9;coin 2 20 2;coin 9 30 0;coin 2 20 2;coin 2 20 2;column 2 30 30 60;");
        Check.due("2, 2, then 2, then 1", 7, x.buy(0, 2, 1));
        tubes(x, 8, 0, 1, 1, 2);
        Check.due("2, then 2, 2, then 1", 7, x.buy(0, 2, 1));
        tubes(x, 7, 0, 2, 0, 0);
        x = Check.wallOf("coin 9 30 0;coin 9 20 1;column 9 1 99 60;");
        Check.due("9 of the least, though it was put into it", 9, x.buy(0, 0, 2));
        tubes(x, 1, 1);
    }

    private static void asManyAsThereAre() {
        Doc.says(Doc.TERMS, "as many as there are and as are not too much;");
        SoupWall x = Check.wallOf("coin 50 30 0;coin 10 20 2;coin 3 20 60;column 10 30 30 60;");
        Check.due("40: two of 10, six of 3", 38, x.buy(0, 0, 1));
        tubes(x, 1, 0, 54);
        x = Check.wallOf("coin 50 30 0;coin 10 20 9;coin 40 20 1;column 11 30 30 60;");
        Check.due("39: 40 is too much", 30, x.buy(0, 0, 1));
        tubes(x, 1, 6, 1);
        x = Check.wallOf("coin 50 30 0;coin 10 20 9;coin 40 20 1;column 10 30 30 60;");
        Check.due("40: 40 is not too much", 40, x.buy(0, 0, 1));
        tubes(x, 1, 9, 0);
        x = Check.wallOf("coin 4 30 0;coin 3 20 9;coin 1 20 0;column 2 30 30 60;");
        Check.due("6 of two: 4, no 3, nothing smaller is tried instead", 4, x.buy(0, 0, 2));
        tubes(x, 1, 9, 0);
        Check.due("2 in STAMPS", 2, x.told(5));
    }

    private static void stampsAreLeft() {
        Doc.says(Doc.TERMS, "what is left is told in STAMPS.");
        SoupWall x = Check.wallOf("coin 99 30 0;column 1 30 30 60;");
        Check.due("98, nothing to give", 0, x.buy(0, 0, 1));
        Check.due("98 STAMPS", 98, x.told(5));
        Check.due("197, one coin back", 99, x.buy(0, 0, 2));
        Check.due("98 more", 196, x.told(5));
        x.price(0, 99);
        x.buy(0, 0, 1);
        Check.due("none more", 196, x.told(5));
        x.tube(0, 0);
        x.price(0, 1);
        Check.due("99 coins: 60 come back", 60 * 99, x.buy(0, 0, 99));
        Check.due("9800 less 5940 more", 196 + 3860, x.told(5));
        Check.due("39 LOST", 39, x.told(4));
    }

    private static void sticking() {
        Doc.says(Doc.TERMS, "Then the COLUMN has DAMP times n more STICK;");
        SoupWall x = Check.wallOf("coin 1 20 0;column 1 1 99 60;column 1 1 99 60;column 1 1 99 60;");
        x.buy(0, 0, 99);
        Check.due("DAMP 0", 0, x.column(0, 4));
        x.damp(1);
        x.buy(0, 0, 4);
        Check.due("1 times 4", 4, x.column(0, 4));
        x.damp(2);
        x.buy(0, 0, 2);
        Check.due("2 times 2 more", 8, x.column(0, 4));
        Check.due("others have none", 0, x.column(1, 4));
        x.wire(1, 2);
        x.buy(1, 0, 3);
        Check.due("the COLUMN of the BUTTON has it", 6, x.column(1, 4));
        Check.due("that to which it is WIRED has none", 0, x.column(2, 4));
        x.damp(9);
        x.buy(0, 0, 99);
        Check.due("9 times 99 more", 8 + 891, x.column(0, 4));
        x.stock(2, 0);
        Check.due("no SALE", SoupWall.NOT, x.buy(2, 0, 1));
        Check.due("no STICK", 0, x.column(2, 4));
        Doc.says(Doc.TERMS, "at 10 or more it is JAMMED.");
        for (int n = 8; n <= 12; n++) {
            x = Check.wallOf("coin 1 20 0;column 1 1 99 60;");
            x.damp(1);
            x.buy(0, 0, n);
            Check.due("STICK " + n, n >= 10 ? 1 : 0, x.column(0, 5));
            Check.due("buy at STICK " + n, n >= 10 ? SoupWall.NOT : 0, x.buy(0, 0, 1));
        }
    }

    private static void kicking() {
        Doc.says(Doc.TERMS, "KICKS (l 0, r 1) of a JAMMED COLUMN:");
        SoupWall x = Check.wallOf("coin 1 20 0;column 1 1 99 60;column 1 1 99 60;kick 0 l;kick 1 r;");
        Check.due("not JAMMED", SoupWall.NOT, x.kick(0, 0));
        x.damp(9);
        x.buy(0, 0, 1);
        Check.due("9 is not JAMMED", SoupWall.NOT, x.kick(0, 0));
        x.buy(0, 0, 1);
        x.buy(1, 0, 2);
        Check.due("1 is not l", 0, x.kick(0, 1));
        Check.due("0 is l", 1, x.kick(0, 0));
        Check.due("0 is not r", 0, x.kick(1, 0));
        Check.due("1 is r", 1, x.kick(1, 1));
    }

    private static void rhythmsInTheLastKicks() {
        Doc.says(Doc.TERMS, "as soon as the last ones since it jammed are its RHYTHM,");
        kicks("lr", "rrrrllr");
        kicks("rrl", "rlrrrl");
        kicks("lrrlrr", "lrrrlrrllrrlrr");
        kicks("llllll", "lllllrllllll");
        kicks("rrrrrr", "rrrrrlrrrrrr");
        kicks("lrlrlr", "lrlrllrlrlr");
        kicks("r", "lllllllllllllllllllllllllllllllllr");
    }

    /** The row frees it by its last kick and not ahead of it. */
    private static void kicks(String rhythm, String row) {
        SoupWall x = Check.wallOf("coin 1 20 0;column 1 1 99 60;kick 0 " + rhythm + ";");
        x.damp(9);
        x.buy(0, 0, 2);
        for (int i = 0; i < row.length(); i++) {
            boolean last = i == row.length() - 1;
            Check.due("kick " + i + " of " + row, last ? 1 : 0, x.kick(0, row.charAt(i) == 'r' ? 1 : 0));
            Check.due("STICK behind kick " + i + " of " + row, last ? 0 : 18, x.column(0, 4));
        }
    }

    private static void kicksSinceItJammed() {
        Doc.says(Doc.TERMS, "it is free: STICK is 0.");
        SoupWall x = Check.wallOf("coin 1 20 0;column 1 1 99 60;column 1 1 99 60;kick 0 rr;kick 1 llr;");
        x.damp(9);
        x.buy(0, 0, 99);
        x.buy(1, 0, 2);
        x.kick(0, 1);
        Check.due("free", 1, x.kick(0, 1));
        Check.due("STICK", 0, x.column(0, 4));
        Check.due("JAMMED", 0, x.column(0, 5));
        Check.due("nothing to kick", SoupWall.NOT, x.kick(0, 1));
        Check.due("the other is JAMMED still", 18, x.column(1, 4));
        Check.due("it sells again", 0, x.buy(0, 0, 1));
        Check.due("STICK from 0 on", 9, x.column(0, 4));
        x.buy(0, 0, 1);
        Check.due("kicks of the last time do not count", 0, x.kick(0, 1));
        Check.due("rr", 1, x.kick(0, 1));
        Check.due("no kick ahead is no l", 0, x.kick(1, 1));
        Check.due("l", 0, x.kick(1, 0));
        Check.due("lr after r is not llr", 0, x.kick(1, 1));
        againAndAgain();
    }

    /** Each jam begins without kicks, which are neither l nor r. */
    private static void againAndAgain() {
        for (String rhythm : new String[] {"lr", "rl", "lll", "rrr", "llllll", "lllllr", "rrrrrr"}) {
            SoupWall x = Check.wallOf("coin 1 20 0;column 1 1 99 60;kick 0 " + rhythm + ";");
            x.damp(9);
            for (int time = 0; time < 3; time++) {
                x.buy(0, 0, 2);
                for (int i = 0; i < rhythm.length(); i++) {
                    int due = i == rhythm.length() - 1 ? 1 : 0;
                    Check.due("kick " + i + " of " + rhythm, due, x.kick(0, rhythm.charAt(i) == 'r' ? 1 : 0));
                }
                x.buy(0, 0, 2);
                Check.due("the last kick alone", 0, x.kick(0, rhythm.endsWith("r") ? 1 : 0));
                for (int i = 0; i < 9 && x.column(0, 5) == 1; i++) {
                    x.kick(0, rhythm.charAt(i % rhythm.length()) == 'r' ? 1 : 0);
                }
            }
        }
    }

    private static void tubes(SoupWall x, int... due) {
        for (int k = 0; k < due.length; k++) {
            Check.due("TUBE " + k, due[k], x.coin(k, 3));
        }
    }
}
