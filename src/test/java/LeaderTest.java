/** Promise 9: leader. */
public final class LeaderTest {
    private static final Check CHECK = new Check("LeaderTest");
    private static final int[] FREE = {5, 6, 7, 8, 9, 17, 18, 19, 22, 23};
    private static final int[] NOT_FREE = {
        0, 1, 2, 3, 4, 10, 11, 12, 13, 14, 15, 16, 20, 21, 24, 25, -1, -2, 256 + 5, 5 - 256,
        Integer.MIN_VALUE, Integer.MAX_VALUE
    };
    private static final String SPACES = "00026     2200025   45  ^!";

    public static void main(String[] args) {
        aByteBecomesAnotherOne();
        theLowestEightBits();
        notOneOfThoseThatMayBeAny();
        noRecordAndNoSuchPlace();
        aNewOneIsThereFirst();
        behindAWrongOne();
        itIsMadeOnce();
        nothingElseChanges();
        theNextRecordHasItsOwn();
        CHECK.end();
    }

    private static void due(String what, Run x, int place, int v, boolean right) {
        String call = what + "leader(" + place + ", " + v + ")";
        CHECK.due(call, x.answer(o -> o.leader(place, v) ? 1 : 0), right ? 1 : 0);
    }

    private static String changed(String text, int place, int b) {
        return text.substring(0, place) + (char) b + text.substring(place + 1);
    }

    /** "A byte of the present record's leader becomes another one: true", each place, that one alone. */
    private static void aByteBecomesAnotherOne() {
        Run x = Run.present(Sample.BOOK);
        String text = Sample.text(Sample.BOOK);
        for (int place : FREE) {
            due("", x, place, 'Z', true);
            CHECK.due("written", x.then(o -> o.leader(place, 'Z')).written(), changed(text, place, 'Z'));
        }
        Run again = x.then(o -> o.leader(9, 'Y')).then(o -> o.leader(9, 'Z'));
        CHECK.due("twice", again.written(), changed(text, 9, 'Z'));
        Run built = Run.blank().then(o -> o.leader(22, 'Z'));
        CHECK.due("of one that was built", built.written(), changed(SPACES, 22, 'Z'));
    }

    /** "(the lowest eight bits)": -1, 0, 255 and 256, and the bytes that are marks elsewhere. */
    private static void theLowestEightBits() {
        int[] values = {-1, 0, 1, 28, 29, 30, 31, 32, 127, 128, 255, 256, 257, 0x12345, -256, -257,
            Integer.MIN_VALUE, Integer.MAX_VALUE};
        for (int v : values) {
            due("", Run.present(Sample.BOOK), 5, v, true);
            Run x = Run.present(Sample.BOOK).then(o -> o.leader(5, v)).then(o -> o.write());
            CHECK.due("octet of " + v, x.answer(o -> o.octet(5)), (byte) v);
            due("without a record ", Run.start(), 23, v, true);
            Run y = Run.start().then(o -> o.leader(23, v)).then(o -> o.write());
            CHECK.due("octet of " + v + " in a new one", y.answer(o -> o.octet(23)), (byte) v);
        }
    }

    /** "false if .. it is not one of those that may be any": one below and one above each of these. */
    private static void notOneOfThoseThatMayBeAny() {
        Run x = Run.present(Sample.BOOK).then(o -> o.write()).then(o -> o.put(100, 0x4142));
        for (int place : NOT_FREE) {
            due("", x, place, '2', false);
            CHECK.same("leader(" + place + ")", x, x.then(o -> o.leader(place, 'z')));
        }
    }

    /** "false if there is no record", and none is made then. */
    private static void noRecordAndNoSuchPlace() {
        Run wrong = Run.present(Sample.BOOK).adding(Sample.bytes("x".repeat(24))).reading();
        for (int place : NOT_FREE) {
            due("a new object, ", Run.start(), place, ' ', false);
            CHECK.same("leader(" + place + ")", Run.start(), Run.start().then(o -> o.leader(place, ' ')));
            due("behind a wrong one, ", wrong, place, ' ', false);
            CHECK.due("length", wrong.then(o -> o.leader(place, ' ')).length(), -1);
        }
    }

    /** "Without a record a new one is there first, if the place is one of these: its leader is spaces, without fields." */
    private static void aNewOneIsThereFirst() {
        for (int place : FREE) {
            due("a new object, ", Run.start(), place, 'Z', true);
            Run x = Run.start().then(o -> o.leader(place, 'Z'));
            CHECK.due("length", x.length(), 0);
            CHECK.due("written", x.written(), changed(SPACES, place, 'Z'));
            CHECK.due("put", x.answer(o -> o.put(1, 0)), 1);
        }
        CHECK.due("spaces all over", Run.start().then(o -> o.leader(5, ' ')).written(), SPACES);
    }

    /** Nothing of the record before is in the new one. */
    private static void behindAWrongOne() {
        Run wrong = Run.present(Sample.BOOK).adding(Sample.with(Sample.BOOK, 79, 'x')).reading();
        for (int place : FREE) {
            due("behind a wrong one, ", wrong, place, 'Z', true);
            Run x = wrong.then(o -> o.leader(place, 'Z'));
            CHECK.due("length", x.length(), 0);
            CHECK.due("no field", x.answer(o -> o.field(245, 0)), 0);
            CHECK.due("spaces", x.written(), changed(SPACES, place, 'Z'));
        }
        Run built = Run.blank().then(o -> o.leader(6, 'q')).then(o -> o.put(100, 0))
                .adding(Sample.bytes("x".repeat(24))).reading().then(o -> o.leader(7, 'Z'));
        CHECK.due("behind one that was built", built.written(), changed(SPACES, 7, 'Z'));
    }

    /** With a record, no new one comes: its bytes and fields stay. */
    private static void itIsMadeOnce() {
        Run x = Run.start().then(o -> o.leader(9, 'z')).then(o -> o.put(1, 0)).then(o -> o.leader(17, 'y'));
        CHECK.due("length", x.length(), 1);
        CHECK.due("written", x.written(), "00039    z2200037y  45  001000100000^^!");
        CHECK.due("the fields of what was read", Run.present(Sample.BOOK).then(o -> o.leader(5, 'a')).length(), 3);
    }

    /** The input, the directory and what was written stay. */
    private static void nothingElseChanges() {
        Run before = Run.holding(Sample.BOOK, Sample.BOOK).reading().then(x -> x.write());
        Run after = before.then(x -> x.leader(5, 'Z'));
        CHECK.due("the directory", after.directoryPicture(), before.directoryPicture());
        CHECK.due("latest", after.octets(), Sample.text(Sample.BOOK));
        CHECK.due("the input", after.read(), 1);
    }

    private static void theNextRecordHasItsOwn() {
        Run x = Run.holding(Sample.BOOK, Sample.BOOK).reading().then(o -> o.leader(5, 'Z')).reading();
        CHECK.due("written", x.written(), Sample.text(Sample.BOOK));
    }
}
