/** Promises 8 to 11: buy, kick, damp, wear. */
public final class SaleTest {
    private static final String WALL = "coin 1 20 3;coin 5 30 2;coin 10 40 0;"
            + "column 7 15 35 4;column 12 25 45 2;column 3 20 22 9;kick 0 lr;kick 1 rrl;";

    public static void main(String[] args) {
        plainSales();
        whatRefusesASale();
        changeGreatestFirst();
        likeValuesLeastKindFirst();
        coinsComeAheadOfChange();
        lostAboveSixty();
        crossedButton();
        stickAndJam();
        rhythms();
        kicksCountSinceTheJam();
        dampAndWear();
        Check.finish();
    }

    private static void plainSales() {
        SoupWall x = Check.wallOf(WALL);
        Check.due("change in coins", 3, x.buy(0, 1, 2));
        Check.due("tube 0", 0, x.coin(0, 3));
        Check.due("tube 1", 4, x.coin(1, 3));
        Check.due("goods", 3, x.column(0, 3));
        Check.due("no stamps", 0, x.told(5));
        Check.due("change in coins, the rest in stamps", 5, x.buy(1, 2, 2));
        Check.due("stamps", 3, x.told(5));
        Check.due("no change", 0, x.buy(2, 0, 3));
        Check.due("sales", 3, x.told(6));
    }

    private static void whatRefusesASale() {
        SoupWall x = Check.wallOf(WALL);
        String before = Check.allOf(x);
        Check.due("no such column", SoupWall.UNKNOWN, x.buy(3, 0, 1));
        Check.due("no such column", SoupWall.UNKNOWN, x.buy(-1, 0, 1));
        Check.due("no such kind", SoupWall.UNKNOWN, x.buy(0, 3, 1));
        Check.due("no such kind", SoupWall.UNKNOWN, x.buy(0, -1, 0));
        Check.due("no coins", SoupWall.OUTSIDE, x.buy(0, 0, 0));
        Check.due("too many coins", SoupWall.OUTSIDE, x.buy(0, 2, 100));
        Check.due("it does not pass", SoupWall.NOT, x.buy(0, 2, 1));
        Check.due("too little", SoupWall.NOT, x.buy(0, 0, 6));
        Check.holds("what is refused changes nothing", before.equals(Check.allOf(x)));
        x.stock(0, 0);
        Check.due("no goods", SoupWall.NOT, x.buy(0, 0, 7));
        x.stock(0, 1);
        Check.due("just the price", 0, x.buy(0, 0, 7));
        Check.due("the last one is gone", SoupWall.NOT, x.buy(0, 0, 7));
        Check.due("99 coins", 70, x.buy(2, 0, 99));
    }

    private static void changeGreatestFirst() {
        SoupWall x = Check.wallOf("coin 2 20 9;coin 6 21 1;coin 5 22 1;coin 20 23 0;column 10 1 99 9;");
        Check.due("6, then two 2s", 10, x.buy(0, 3, 1));
        Check.due("2s", 7, x.coin(0, 3));
        Check.due("6s", 0, x.coin(1, 3));
        Check.due("5s", 1, x.coin(2, 3));
        Check.due("20s", 1, x.coin(3, 3));
        Check.due("5, then two 2s, 1 in stamps", 9, x.buy(0, 3, 1));
        Check.due("stamps", 1, x.told(5));
    }

    private static void likeValuesLeastKindFirst() {
        SoupWall x = Check.wallOf("coin 9 20 0;coin 2 21 1;coin 2 22 2;column 3 1 99 9;");
        Check.due("three 2s", 6, x.buy(0, 0, 1));
        x = Check.wallOf("coin 9 20 0;coin 2 21 1;coin 2 22 2;column 5 1 99 9;");
        Check.due("two 2s", 4, x.buy(0, 0, 1));
        Check.due("the least kind is empty", 0, x.coin(1, 3));
        Check.due("the next gave one", 1, x.coin(2, 3));
    }

    private static void coinsComeAheadOfChange() {
        SoupWall x = Check.wallOf("coin 5 20 0;column 3 1 99 9;");
        Check.due("own coins come back", 10, x.buy(0, 0, 3));
        Check.due("the tube", 1, x.coin(0, 3));
        Check.due("stamps", 2, x.told(5));
    }

    private static void lostAboveSixty() {
        SoupWall x = Check.wallOf("coin 1 20 58;column 3 1 99 9;");
        Check.due("to 61, one lost", 0, x.buy(0, 0, 3));
        Check.due("lost", 1, x.told(4));
        Check.due("the tube is full", 60, x.coin(0, 3));
        Check.due("60 paid back, 36 in stamps", 60, x.buy(0, 0, 99));
        Check.due("lost", 100, x.told(4));
        Check.due("stamps", 36, x.told(5));
        Check.due("the tube", 0, x.coin(0, 3));
    }

    private static void crossedButton() {
        SoupWall x = Check.wallOf("coin 1 20 0;column 3 15 25 0;column 8 50 60 2;");
        x.wire(0, 1);
        x.damp(4);
        Check.due("at its own price, by its own span", 0, x.buy(0, 0, 3));
        Check.due("goods of the other", 1, x.column(1, 3));
        Check.due("the button's column jams", 12, x.column(0, 4));
        Check.due("the other does not", 0, x.column(1, 4));
        x.kick(0, 0);
        x.buy(0, 0, 3);
        x.kick(0, 0);
        x.stock(0, 5);
        Check.due("own goods don't help", SoupWall.NOT, x.buy(0, 0, 3));
    }

    private static void stickAndJam() {
        SoupWall x = Check.wallOf(WALL);
        x.stock(2, 60);
        x.damp(3);
        x.buy(2, 0, 3);
        Check.due("stick 9", 9, x.column(2, 4));
        Check.due("9 is not jammed", 0, x.column(2, 5));
        x.damp(0);
        x.buy(2, 0, 9);
        Check.due("no damp, no stick", 9, x.column(2, 4));
        x.damp(9);
        x.buy(2, 0, 99);
        Check.due("stick 9 and 891", 900, x.column(2, 4));
        Check.due("jammed", 1, x.column(2, 5));
        Check.due("a jammed one sells nothing", SoupWall.NOT, x.buy(2, 0, 3));
        x = Check.wallOf(WALL);
        x.damp(1);
        x.buy(0, 0, 10);
        Check.due("10 is jammed", 1, x.column(0, 5));
    }

    private static void rhythms() {
        SoupWall x = Check.wallOf(WALL);
        Check.due("not jammed", SoupWall.NOT, x.kick(0, 0));
        Check.due("no such column", SoupWall.UNKNOWN, x.kick(3, 2));
        Check.due("no such side", SoupWall.OUTSIDE, x.kick(0, 2));
        Check.due("no such side", SoupWall.OUTSIDE, x.kick(0, -1));
        x.damp(9);
        x.buy(0, 1, 2);
        kicks(x, 0, "rrrrllr", 1);
        Check.due("free", 0, x.column(0, 4));
        Check.due("not jammed any more", SoupWall.NOT, x.kick(0, 1));
        x.buy(1, 1, 3);
        kicks(x, 1, "rlrrrl", 1);
        x.buy(2, 0, 3);
        Check.due("r is not the untold rhythm", 0, x.kick(2, 1));
        Check.due("l is the untold rhythm", 1, x.kick(2, 0));
        x = Check.wallOf("coin 1 20 0;column 1 1 99 9;kick 0 lrrlrr;");
        x.damp(9);
        x.buy(0, 0, 2);
        kicks(x, 0, "lrrrlrrllrrlrr", 1);
        x.buy(0, 0, 2);
        kicks(x, 0, "lrrlrlrrlr", 0);
    }

    /** All kicks but the last leave it jammed. */
    private static void kicks(SoupWall x, int c, String row, int last) {
        for (int i = 0; i < row.length(); i++) {
            int due = i == row.length() - 1 ? last : 0;
            Check.due("kick " + i + " of " + row, due, x.kick(c, row.charAt(i) == 'r' ? 1 : 0));
        }
    }

    private static void kicksCountSinceTheJam() {
        SoupWall x = Check.wallOf("coin 1 20 0;column 1 1 99 9;column 1 1 99 9;kick 0 rr;kick 1 ll;");
        x.damp(9);
        x.buy(0, 0, 2);
        x.buy(1, 0, 2);
        Check.due("kicks are a column's own", 0, x.kick(0, 1));
        Check.due("no kick is told as l", 0, x.kick(1, 0));
        Check.due("ll", 1, x.kick(1, 0));
        Check.due("rr", 1, x.kick(0, 1));
        x.buy(0, 0, 2);
        Check.due("the kicks of the last jam are forgotten", 0, x.kick(0, 1));
        Check.due("rr", 1, x.kick(0, 1));
    }

    private static void dampAndWear() {
        SoupWall x = Check.wallOf(WALL);
        Check.due("damp(9)", 0, x.damp(9));
        Check.due("damp(10)", SoupWall.OUTSIDE, x.damp(10));
        Check.due("damp(-1)", SoupWall.OUTSIDE, x.damp(-1));
        Check.due("damp(0)", 9, x.damp(0));
        Check.due("damp(0) again", 0, x.damp(0));
        Check.due("told(7)", 0, x.told(7));
        Check.due("wear(9)", 0, x.wear(9));
        Check.due("wear(10)", SoupWall.OUTSIDE, x.wear(10));
        Check.due("wear(-1)", SoupWall.OUTSIDE, x.wear(-1));
        Check.due("coin(0, 2)", 11, x.coin(0, 2));
        Check.due("worn too light", SoupWall.NOT, x.buy(0, 0, 7));
        Check.due("wear(0)", 9, x.wear(0));
        Check.due("wear(5)", 0, x.wear(5));
        Check.due("just heavy enough", 0, x.buy(0, 0, 7));
        Check.due("damp and wear work without a wall", 0, new SoupWall().wear(3));
    }
}
