/** Promises 12 to 17 and 29: stock, tube, price, span, wire, drift, seed. */
public final class ChangesTest {
    private static final String WALL = "coin 1 20 3;coin 5 30 2;coin 10 40 0;"
            + "column 7 15 35 4;column 12 25 45 2;column 3 18 22 9;";

    public static void main(String[] args) {
        stockAndTube();
        priceAndSpan();
        wires();
        seeds();
        drifts();
        driftByHand();
        Check.finish();
    }

    private static void stockAndTube() {
        SoupWall x = Check.wallOf(WALL);
        Check.due("stock(0, 60)", 4, x.stock(0, 60));
        Check.due("stock(0, 61)", SoupWall.OUTSIDE, x.stock(0, 61));
        Check.due("stock(0, -1)", SoupWall.OUTSIDE, x.stock(0, -1));
        Check.due("stock(3, 61)", SoupWall.UNKNOWN, x.stock(3, 61));
        Check.due("stock(-1, 1)", SoupWall.UNKNOWN, x.stock(-1, 1));
        Check.due("stock(0, 0)", 60, x.stock(0, 0));
        Check.due("goods", 0, x.column(0, 3));
        Check.due("others keep theirs", 2, x.column(1, 3));
        Check.due("tube(1, 60)", 2, x.tube(1, 60));
        Check.due("tube(1, 61)", SoupWall.OUTSIDE, x.tube(1, 61));
        Check.due("tube(1, -1)", SoupWall.OUTSIDE, x.tube(1, -1));
        Check.due("tube(3, 61)", SoupWall.UNKNOWN, x.tube(3, 61));
        Check.due("tube(-1, 1)", SoupWall.UNKNOWN, x.tube(-1, 1));
        Check.due("tube(1, 0)", 60, x.tube(1, 0));
        Check.due("coins", 0, x.coin(1, 3));
        Check.due("nothing is lost by it", 0, x.told(4));
    }

    private static void priceAndSpan() {
        SoupWall x = Check.wallOf(WALL);
        Check.due("price(1, 99)", 12, x.price(1, 99));
        Check.due("price(1, 100)", SoupWall.OUTSIDE, x.price(1, 100));
        Check.due("price(1, 0)", SoupWall.OUTSIDE, x.price(1, 0));
        Check.due("price(3, 0)", SoupWall.UNKNOWN, x.price(3, 0));
        Check.due("price(1, 1)", 99, x.price(1, 1));
        Check.due("column(1, 0)", 1, x.column(1, 0));
        Check.due("span(0, 1, 99)", 1535, x.span(0, 1, 99));
        Check.due("span(0, 0, 9)", SoupWall.OUTSIDE, x.span(0, 0, 9));
        Check.due("span(0, 9, 100)", SoupWall.OUTSIDE, x.span(0, 9, 100));
        Check.due("span(0, 9, 8)", SoupWall.OUTSIDE, x.span(0, 9, 8));
        Check.due("span(0, 100, 100)", SoupWall.OUTSIDE, x.span(0, 100, 100));
        Check.due("span(3, 0, 0)", SoupWall.UNKNOWN, x.span(3, 0, 0));
        Check.due("span(0, 7, 7)", 199, x.span(0, 7, 7));
        Check.due("column(0, 1)", 7, x.column(0, 1));
        Check.due("column(0, 2)", 7, x.column(0, 2));
    }

    private static void wires() {
        SoupWall x = Check.wallOf(WALL);
        Check.due("wire(0, 2)", 0, x.wire(0, 2));
        Check.due("wire(0, 3)", SoupWall.UNKNOWN, x.wire(0, 3));
        Check.due("wire(3, 0)", SoupWall.UNKNOWN, x.wire(3, 0));
        Check.due("wire(-1, 0)", SoupWall.UNKNOWN, x.wire(-1, 0));
        Check.due("wire(0, -1)", SoupWall.UNKNOWN, x.wire(0, -1));
        Check.due("wire(0, 0)", 2, x.wire(0, 0));
        Check.due("column(0, 6)", 0, x.column(0, 6));
    }

    private static void seeds() {
        SoupWall x = new SoupWall();
        Check.due("seed(2147483647)", 0, x.seed(2147483647));
        Check.due("seed(-1)", SoupWall.OUTSIDE, x.seed(-1));
        Check.due("seed(5)", 2147483647, x.seed(5));
        Check.due("seed(0)", 5, x.seed(0));
    }

    private static void drifts() {
        SoupWall x = Check.wallOf(WALL);
        x.seed(5);
        Check.due("drift(4)", 4, x.drift(4));
        Check.due("told(6)", 4, x.told(6));
        Check.due("the seed afterwards", 1187524049, x.seed(0));
        String before = Check.allOf(x);
        Check.due("drift(0)", SoupWall.OUTSIDE, x.drift(0));
        Check.due("drift(100)", SoupWall.OUTSIDE, x.drift(100));
        Check.holds("refused drifts change nothing", before.equals(Check.allOf(x)));
        Check.holds("drift(99)", x.drift(99) >= 0);
        Check.due("no wall", SoupWall.NOT, new SoupWall().drift(1));
        Check.due("OUTSIDE ahead of NOT", SoupWall.OUTSIDE, new SoupWall().drift(0));
        Check.due("no columns", SoupWall.NOT, Check.wallOf("coin 1 20 3;").drift(1));
        Check.due("no kinds", SoupWall.NOT, Check.wallOf("column 1 20 30 3;").drift(1));
    }

    private static void driftByHand() {
        for (int start = 0; start < 300; start++) {
            Days.byHand(WALL, start * 7158279, 9);
        }
    }
}
