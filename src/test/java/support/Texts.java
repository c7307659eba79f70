/** Texts, each fed to a new object, with what wall() and fault() must say of it. */
final class Texts {
    private Texts() {
    }

    static void good(String text, int kinds, int columns, int slugs) {
        SoupWall x = new SoupWall();
        Check.feed(x, text);
        Check.due("wall() of '" + text + "'", columns, x.wall());
        Check.due("fault() of '" + text + "'", SoupWall.NONE, x.fault());
        Check.due("kinds of '" + text + "'", kinds, x.told(0));
        Check.due("columns of '" + text + "'", columns, x.told(1));
        Check.due("slugs of '" + text + "'", slugs, x.told(2));
    }

    static void bad(String text, int fault, int at) {
        SoupWall x = new SoupWall();
        Check.feed(x, text);
        Check.due("wall() of '" + text + "'", -10 - fault, x.wall());
        Check.due("fault() of '" + text + "'", at, x.fault());
        Check.due("kinds of '" + text + "'", 0, x.told(0));
        Check.due("columns of '" + text + "'", 0, x.told(1));
        Check.due("slugs of '" + text + "'", 0, x.told(2));
    }
}
