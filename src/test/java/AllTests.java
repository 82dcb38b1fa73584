/** Runs every test of the project; the arguments name the source of the class, the document, and README.md. */
public final class AllTests {
    private static final long MOST_MILLIS = 600_000;

    private AllTests() {
    }

    public static void main(String[] args) throws java.io.IOException {
        watch();
        FencesTest.all();
        TextsTest.all();
        DawnsTest.all();
        ThoughtTest.all();
        TellingTest.all();
        ModelRunsTest.all();
        TermsBounds.all();
        RefusedBounds.all();
        FenceBounds.all();
        TextBounds.all();
        DawnBounds.all();
        ThoughtBounds.all();
        VoiceBounds.all();
        TellingBounds.all();
        Sentence.all(args.length > 1 ? args[1] : "../shared/DOC.md");
        ReadmeTest.all(args.length > 2 ? args[2] : "README.md", args.length > 1 ? args[1] : "../shared/DOC.md");
        LanguageTest.all(args.length > 0 ? args[0] : "src/main/java/WalkFences.java");
        if (!Due.allPassed()) {
            System.exit(1);
        }
    }

    /** A call that doesn't end fails the run, as any other fault does. */
    private static void watch() {
        Thread watcher = new Thread(() -> {
            try {
                Thread.sleep(MOST_MILLIS);
            } catch (InterruptedException woken) {
                return;
            }
            System.out.println("FAILED: " + Due.running() + " does not end");
            Runtime.getRuntime().halt(1);
        });
        watcher.setDaemon(true);
        watcher.start();
    }
}
