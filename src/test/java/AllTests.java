/** Runs every test of the project; the source of the class is named by the one argument. */
public final class AllTests {
    private AllTests() {
    }

    public static void main(String[] args) throws java.io.IOException {
        FencesTest.all();
        TextsTest.all();
        DawnsTest.all();
        ThoughtTest.all();
        TellingTest.all();
        ModelRunsTest.all();
        LanguageTest.all(args.length > 0 ? args[0] : "src/main/java/WalkFences.java");
        if (!Due.allPassed()) {
            System.exit(1);
        }
    }
}
