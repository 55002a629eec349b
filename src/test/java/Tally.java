/** Counts what the tests find and prints what is wrong. */
final class Tally {

    private static final int MOST_PRINTED = 40;
    int passed;
    int failed;

    void same(String what, Object got, Object due) {
        if (due.equals(got)) {
            passed++;
            return;
        }
        failed++;
        if (failed <= MOST_PRINTED) {
            System.out.println(what + "\n  answered " + got + "\n  due is   " + due);
        }
    }

    /** Prints the closing line and ends with exit code 1 if anything failed. */
    void close(String name) {
        System.out.println(name + ": " + passed + " passed, " + failed + " failed");
        if (failed != 0) {
            System.exit(1);
        }
    }
}
