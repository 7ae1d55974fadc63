/** Counts the answers that are as due, and prints those that are not. */
final class Due {
    private static int passed = 0;
    private static int failed = 0;

    private Due() {
    }

    static void is(String call, long got, long want) {
        judge(got == want, call + " answered " + got + ", due is " + want);
    }

    static void same(String what, String got, String want) {
        judge(got.equals(want), what + " is\n  " + got + "\nand should be\n  " + want);
    }

    private static void judge(boolean asDue, String otherwise) {
        if (asDue) {
            passed++;
        } else {
            failed++;
            System.out.println(otherwise);
        }
    }

    static void finish() {
        System.out.println(passed + " passed, " + failed + " failed");
        if (failed != 0) {
            System.exit(1);
        }
    }
}
