/** Counts answers that are due and prints those that are not; a test ends with end(). */
final class Check {
    interface Call {
        long answer();
    }

    private final String name;
    private int passed;
    private int failed;

    Check(String name) {
        this.name = name;
    }

    void due(String what, long got, long want) {
        count(got == want, what + " answered " + got + ", due is " + want);
    }

    void due(String what, boolean got, boolean want) {
        count(got == want, what + " answered " + got + ", due is " + want);
    }

    void due(String what, String got, String want) {
        count(got.equals(want), what + " answered " + got + ", due is " + want);
    }

    /** The very class of the document, not one above or below it. */
    void dueThrow(String what, Call call) {
        String got;
        try {
            got = Long.toString(call.answer());
        } catch (RuntimeException e) {
            got = e.getClass().getName();
        }
        due(what, got, "java.lang.ArrayIndexOutOfBoundsException");
    }

    private void count(boolean right, String message) {
        if (right) {
            passed++;
        } else {
            failed++;
            System.out.println(name + ": " + message);
        }
    }

    void end() {
        System.out.println(name + ": " + passed + " passed, " + failed + " failed");
        if (failed != 0 || passed == 0) {
            System.exit(1);
        }
    }
}
