/** Runs every test of the project; the arguments name the source of the class, and the document. */
public final class AllTests {
    private AllTests() {
    }

    public static void main(String[] args) throws java.io.IOException {
        FencesTest.all();
        TextsTest.all();
        DawnsTest.all();
        ThoughtTest.all();
        TellingTest.all();
        ModelRunsTest.all();
        TermsBounds.all();
        RefusedBounds.all();
        FenceBounds.all();
        TextBounds.all();
        DawnBounds.all();
        ThoughtBounds.all();
        VoiceBounds.all();
        TellingBounds.all();
        Sentence.all(args.length > 1 ? args[1] : "../shared/DOC.md");
        LanguageTest.all(args.length > 0 ? args[0] : "src/main/java/WalkFences.java");
        if (!Due.allPassed()) {
            System.exit(1);
        }
    }
}
