/** Each sentence of the document that names a case, with a test of its own; and no words are left out. */
public final class SentencesTest {
    public static void main(String[] args) {
        TermsTold.run();
        TextTold.run();
        WallTold.run();
        SalesTold.run();
        LooksTold.run();
        DoneTold.run();
        FewestTold.run();
        NightTold.run();
        RhythmsTold.run();
        ImagesTold.run();
        Doc.allIsHeld();
        Check.finish();
    }
}
