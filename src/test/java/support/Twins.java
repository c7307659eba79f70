/** Two objects that were made alike: one of them gets calls that are refused, then both must go on alike. */
final class Twins {
    /** A call, as a test writes it. */
    interface Call {
        int on(SoupWall x);
    }

    private static final String WALL = "coin 1 20 3;coin 5 30 2;coin 10 40 0;coin 2 25 1;"
            + "column 7 15 35 4;column 12 25 45 2;column 3 18 22 9;slug 33;slug 50;kick 0 lr;kick 1 rrl;";

    private Twins() {
    }

    /** One whose text has 399 bytes. */
    static SoupWall busy() {
        SoupWall x = busyWithoutText();
        Check.feed(x, " ".repeat(392) + "slug 5;");
        return x;
    }

    /** Column 0 is jammed and was kicked once; buyers and tries are full; image 1 was not kept. */
    static SoupWall busyWithoutText() {
        SoupWall x = Check.wallOf(WALL);
        x.seed(77);
        x.wear(1);
        x.damp(5);
        x.buy(0, 1, 2);
        x.kick(0, 0);
        x.keep(0);
        x.damp(1);
        x.wire(1, 2);
        x.buy(2, 0, 4);
        for (int b = 0; b < 8; b++) {
            x.buyer(2, 0, 3 + b % 2);
        }
        for (int t = 0; t < 10; t++) {
            x.attempt(0, 1 + t % 3, false);
        }
        return x;
    }

    /** The call is answered as due, and what comes behind it is as if it had not been. */
    static void refused(String name, int due, Call call) {
        SoupWall x = busy();
        SoupWall y = busy();
        Check.due(name, due, call.on(x));
        Check.due(name + " again", due, call.on(x));
        Check.due("fault() behind " + name, y.fault(), x.fault());
        Check.holds(name + " changes nothing", goOn(x).equals(goOn(y)));
    }

    /** A long way on, with all answers: whatever the object holds is seen in them, but for the fault that it begins with. */
    static String goOn(SoupWall x) {
        StringBuilder all = new StringBuilder(Check.stateOf(x));
        tryAll(x, all);
        add(all, x.kick(0, 1), x.goBack(1), x.goBack(0), x.night(0), x.night(1), x.kick(0, 1));
        all.append(Check.stateOf(x));
        add(all, x.feed(2, 0), x.feed(1, 32), x.feed(1, 32), x.drift(3), x.tear(), x.wall(), x.fault());
        add(all, x.goBack(0), x.goBack(1));
        return all.append(Check.stateOf(x)).toString();
    }

    private static void tryAll(SoupWall x, StringBuilder all) {
        for (int m = 1; m <= 6; m++) {
            add(all, x.fits(m, SoupWall.NONE), x.fits(m, 0), x.fits(m, 1));
        }
        for (int i = 0; i < 3; i++) {
            add(all, x.fewest(i, SoupWall.NONE), x.fewest(i, i), x.fill(i), x.best(i), x.cheat(i));
        }
        add(all, x.fill(SoupWall.NONE), x.shortOn(), x.night(0), x.night(1), x.cheats());
    }

    private static void add(StringBuilder all, int... answers) {
        for (int answer : answers) {
            all.append(answer).append(' ');
        }
    }
}
