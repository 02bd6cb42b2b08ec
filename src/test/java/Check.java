/** Counts answers that are due and prints those that are not; a test ends with end(). */
final class Check {
    interface Call {
        long answer();
    }

    private final String name;
    private int passed;
    private int failed;

    Check(String name) {
        this.name = name;
    }

    void due(String what, long got, long want) {
        count(got == want, what + " answered " + got + ", due is " + want);
    }

    void due(String what, boolean got, boolean want) {
        count(got == want, what + " answered " + got + ", due is " + want);
    }

    void due(String what, String got, String want) {
        count(got.equals(want), what + " answered " + got + ", due is " + want);
    }

    /**
     * The answer, or the name of what is thrown: the very class, not one above or below it. What the
     * machine throws by itself is told apart by its text: the program must throw on its own.
     */
    static String told(Call call) {
        try {
            return Long.toString(call.answer());
        } catch (RuntimeException e) {
            boolean machine = String.valueOf(e.getMessage()).startsWith("Index ");
            return e.getClass().getName() + (machine ? " of the machine" : "");
        }
    }

    void dueThrow(String what, Call call) {
        due(what, told(call), "java.lang.ArrayIndexOutOfBoundsException");
    }

    void dueThrow(String what, Run run, Run.Question question) {
        dueThrow(what, () -> run.answer(question));
    }

    /** The second run has calls more than the first: they changed nothing that later calls show. */
    void same(String what, Run before, Run after) {
        due(what + " changes nothing: the picture", after.picture(), before.picture());
    }

    private void count(boolean right, String message) {
        if (right) {
            passed++;
        } else {
            failed++;
            System.out.println(name + ": " + message);
        }
    }

    void end() {
        System.out.println(name + ": " + passed + " passed, " + failed + " failed");
        if (failed != 0 || passed == 0) {
            System.exit(1);
        }
    }
}
