/** Promises 5 to 7: told, coin, column. */
public final class LooksTest {
    private static final String WALL = "coin 1 20 3;coin 5 30 2;coin 10 40 0;"
            + "column 7 15 35 4;column 12 25 45 2;column 3 20 22 9;slug 33;slug 50;slug 15;";

    public static void main(String[] args) {
        toldAll();
        coinAll();
        columnAll();
        spanEdges();
        Check.finish();
    }

    private static void toldAll() {
        SoupWall x = Check.wallOf(WALL);
        x.feed(3, 0);
        x.damp(2);
        x.wear(5);
        x.tube(0, 0);
        x.buy(1, 2, 2);
        x.buyer(0, 0, 1);
        x.buyer(0, 0, 1);
        x.attempt(0, 1, false);
        int[] due = {3, 3, 3, 3, 0, 3, 1, 2, 5, 2, 1, 5 + 20};
        for (int what = 0; what < due.length; what++) {
            Check.due("told(" + what + ")", due[what], x.told(what));
        }
        x.tube(1, 60);
        x.buy(1, 1, 4);
        Check.due("LOST", 4, x.told(4));
        Check.due("told(-1)", SoupWall.OUTSIDE, x.told(-1));
        Check.due("told(12)", SoupWall.OUTSIDE, x.told(12));
    }

    private static void coinAll() {
        SoupWall x = Check.wallOf(WALL);
        int[][] due = {{1, 20, 20, 3, 5}, {5, 30, 30, 2, 3}, {10, 40, 40, 0, 2}};
        coins(x, due);
        x.wear(6);
        int[][] worn = {{1, 20, 14, 3, 0}, {5, 30, 24, 2, 1}, {10, 40, 34, 0, 3}};
        coins(x, worn);
        Check.due("coin(3, 0)", SoupWall.UNKNOWN, x.coin(3, 0));
        Check.due("coin(-1, 0)", SoupWall.UNKNOWN, x.coin(-1, 0));
        Check.due("coin(3, 9)", SoupWall.UNKNOWN, x.coin(3, 9));
        Check.due("coin(0, 5)", SoupWall.OUTSIDE, x.coin(0, 5));
        Check.due("coin(0, -1)", SoupWall.OUTSIDE, x.coin(0, -1));
    }

    private static void coins(SoupWall x, int[][] due) {
        for (int k = 0; k < due.length; k++) {
            for (int what = 0; what < due[k].length; what++) {
                Check.due("coin(" + k + ", " + what + ")", due[k][what], x.coin(k, what));
            }
        }
    }

    private static void columnAll() {
        SoupWall x = Check.wallOf(WALL);
        int[][] due = {{7, 15, 35, 4, 0, 0, 0, 3, 5}, {12, 25, 45, 2, 0, 0, 1, 6, 1}, {3, 20, 22, 9, 0, 0, 2, 1, 0}};
        columns(x, due);
        x.wear(5);
        x.damp(5);
        x.wire(0, 2);
        x.buy(0, 1, 2);
        x.price(1, 99);
        int[][] then = {{7, 15, 35, 4, 10, 1, 2, 7, 5}, {99, 25, 45, 2, 0, 0, 1, 6, 1}, {3, 20, 22, 8, 0, 0, 2, 0, 0}};
        columns(x, then);
        Check.due("column(3, 0)", SoupWall.UNKNOWN, x.column(3, 0));
        Check.due("column(-1, 0)", SoupWall.UNKNOWN, x.column(-1, 0));
        Check.due("column(3, 9)", SoupWall.UNKNOWN, x.column(3, 9));
        Check.due("column(0, 9)", SoupWall.OUTSIDE, x.column(0, 9));
        Check.due("column(0, -1)", SoupWall.OUTSIDE, x.column(0, -1));
    }

    private static void columns(SoupWall x, int[][] due) {
        for (int c = 0; c < due.length; c++) {
            for (int what = 0; what < due[c].length; what++) {
                Check.due("column(" + c + ", " + what + ")", due[c][what], x.column(c, what));
            }
        }
    }

    private static void spanEdges() {
        SoupWall x = Check.wallOf("coin 1 20 0;coin 1 21 0;coin 1 30 0;coin 1 31 0;coin 1 19 0;column 1 20 30 1;"
                + "slug 19;slug 20;slug 25;slug 30;slug 31;");
        Check.due("kinds at both ends pass", 0b00111, x.column(0, 7));
        Check.due("slugs at both ends pass", 0b01110, x.column(0, 8));
        x.wear(1);
        Check.due("worn kinds", 0b01110, x.column(0, 7));
        Check.due("slugs are not worn", 0b01110, x.column(0, 8));
    }
}
