/** Counts the project's tests and prints each answer that is not the one that is due. */
final class Due {
    static final int BEYOND = -1000000001;
    static final int NONE = -1000000002;
    static final int STATE = -1000000003;
    static final int FULL = -1000000004;
    static final int KIND = -1000000005;
    static final int PARTED = -1000000006;

    interface Test {
        void run();
    }

    private static int passed = 0;
    private static int failed = 0;
    private static boolean right = true;
    private static volatile String running = "";

    private Due() {
    }

    static void test(String name, Test test) {
        right = true;
        running = name;
        try {
            test.run();
        } catch (RuntimeException | StackOverflowError thrown) {
            right = false;
            System.out.println(name + ": threw " + thrown);
            thrown.printStackTrace(System.out);
        }
        if (right) {
            passed++;
        } else {
            failed++;
            System.out.println("FAILED: " + name);
        }
    }

    static void is(long got, long want) {
        if (got != want) {
            right = false;
            StackTraceElement caller = new Throwable().getStackTrace()[1];
            System.out.println("  " + caller.getFileName() + ":" + caller.getLineNumber()
                    + " answered " + got + ", due is " + want);
        }
    }

    /** Each of these calls is due the same answer. */
    static void each(long want, long... got) {
        for (int i = 0; i < got.length; i++) {
            if (got[i] != want) {
                right = false;
                StackTraceElement caller = new Throwable().getStackTrace()[1];
                System.out.println("  " + caller.getFileName() + ":" + caller.getLineNumber() + ", number " + i
                        + " of the row, answered " + got[i] + ", due is " + want);
            }
        }
    }

    static void fail(String why) {
        right = false;
        System.out.println("  " + why);
    }

    /** Which test runs, or ran last. */
    static String running() {
        return running;
    }

    /** Prints the sum, and tells whether every test passed. */
    static boolean allPassed() {
        System.out.println("tests of the project: " + passed + " right, " + failed + " wrong");
        return failed == 0 && passed > 0;
    }
}
