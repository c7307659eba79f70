/** Promises 30 and 31: keep, goBack. */
public final class ImagesTest {
    private static final String WALL = "coin 1 20 59;coin 5 30 2;column 3 15 35 4;column 12 25 45 2;kick 0 rrl;";

    public static void main(String[] args) {
        refusals();
        allIsKept();
        kicksAreKept();
        notInTheImage();
        beforeAnyWall();
        Check.finish();
    }

    private static void refusals() {
        SoupWall x = Check.wallOf(WALL);
        Check.due("keep(2)", SoupWall.UNKNOWN, x.keep(2));
        Check.due("keep(-1)", SoupWall.UNKNOWN, x.keep(-1));
        Check.due("goBack(2)", SoupWall.UNKNOWN, x.goBack(2));
        Check.due("goBack(-1)", SoupWall.UNKNOWN, x.goBack(-1));
        Check.due("goBack(0)", SoupWall.NOT, x.goBack(0));
        Check.due("keep(1)", 1, x.keep(1));
        Check.due("goBack(0) still", SoupWall.NOT, x.goBack(0));
        Check.due("goBack(1)", 1, x.goBack(1));
    }

    private static void allIsKept() {
        SoupWall x = Check.wallOf(WALL);
        x.damp(3);
        x.wear(1);
        x.buy(0, 0, 3);
        x.buy(1, 1, 3);
        x.seed(9);
        String first = Check.allOf(x);
        x.keep(0);
        change(x);
        String second = Check.allOf(x);
        x.keep(1);
        Check.holds("something changed", !first.equals(second));
        x.goBack(0);
        Check.holds("image 0", first.equals(Check.allOf(x)));
        change(x);
        x.goBack(0);
        Check.holds("image 0 again", first.equals(Check.allOf(x)));
        x.goBack(1);
        Check.holds("image 1", second.equals(Check.allOf(x)));
    }

    private static void change(SoupWall x) {
        x.stock(0, 20);
        x.tube(1, 7);
        x.price(0, 2);
        x.price(1, 30);
        x.span(0, 1, 99);
        x.span(1, 2, 98);
        x.wire(0, 1);
        x.wire(1, 0);
        x.wear(8);
        x.damp(9);
        x.buy(0, 0, 50);
        x.buy(1, 1, 60);
        x.seed(1234);
        x.drift(3);
    }

    private static void kicksAreKept() {
        SoupWall x = Check.wallOf(WALL);
        x.damp(9);
        x.buy(0, 0, 3);
        x.kick(0, 1);
        x.kick(0, 1);
        x.keep(0);
        Check.due("rrl", 1, x.kick(0, 0));
        x.goBack(0);
        Check.due("jammed again", 1, x.column(0, 5));
        Check.due("rrl by the kicks of the image", 1, x.kick(0, 0));
        x.buy(0, 0, 3);
        x.kick(0, 0);
        x.keep(1);
        x.kick(0, 1);
        x.goBack(1);
        Check.due("r", 0, x.kick(0, 1));
        Check.due("the r behind the image is gone", 0, x.kick(0, 0));
    }

    private static void notInTheImage() {
        SoupWall x = Check.wallOf(WALL);
        x.keep(0);
        x.buyer(0, 0, 3);
        x.attempt(0, 1, true);
        Check.feed(x, "slug");
        x.goBack(0);
        Check.due("buyers stay", 1, x.told(9));
        Check.due("tries stay", 1, x.told(10));
        Check.due("the text stays", 4, x.told(3));
    }

    private static void beforeAnyWall() {
        SoupWall x = new SoupWall();
        x.seed(4);
        Check.due("keep(0)", 1, x.keep(0));
        x.seed(5);
        Check.due("goBack(0)", 1, x.goBack(0));
        Check.due("seed", 4, x.seed(4));
        Check.due("nobody came", 1, x.night(0));
        Check.feed(x, WALL);
        x.wall();
        Check.due("gone by the wall", SoupWall.NOT, x.goBack(0));
    }
}
