/** Promise 8: length. */
public final class LengthTest {
    private static final Check CHECK = new Check("LengthTest");

    public static void main(String[] args) {
        howManyFields();
        noneWithoutOne();
        fromNoneToSixty();
        whatIsNoField();
        askingChangesNothing();
        CHECK.end();
    }

    /** "How many fields the present record has": none, one, three, those with the same bytes. */
    private static void howManyFields() {
        CHECK.due("none", Run.present().length(), 0);
        CHECK.due("one", Run.present("001:a").length(), 1);
        CHECK.due("three", Run.present(Sample.BOOK).length(), 3);
        CHECK.due("a new one", Run.blank().length(), 0);
        CHECK.due("the same bytes", Run.present(Sample.shared(30, "001", "a")).length(), 30);
        Run x = Run.holding(Sample.BOOK, Sample.record("001:a"), Sample.record()).reading();
        CHECK.due("the second's", x.reading().length(), 1);
        CHECK.due("the third's", x.reading().reading().length(), 0);
    }

    /** "NONE without one": before the first, behind a wrong one; not 0. */
    private static void noneWithoutOne() {
        CHECK.due("a new object", Run.start().length(), -1);
        CHECK.due("not read", Run.holding(Sample.BOOK).length(), -1);
        CHECK.due("not whole", Run.holding(Sample.firstOf(Sample.BOOK, 86)).reading().length(), -1);
        CHECK.due("wrong", Run.holding(Sample.with(Sample.BOOK, 79, 'x')).reading().length(), -1);
        Run wrong = Run.present(Sample.BOOK).adding(Sample.bytes("x".repeat(24))).reading();
        CHECK.due("behind a wrong one", wrong.length(), -1);
        CHECK.due("a new one behind it", wrong.then(x -> x.leader(5, 'a')).length(), 0);
        CHECK.due("no new one behind it", wrong.then(x -> x.leader(4, 'a')).length(), -1);
        CHECK.due("a right one behind it", wrong.adding(Sample.BOOK).reading().length(), 3);
    }

    private static void fromNoneToSixty() {
        Run x = Run.blank();
        for (int n = 0; n <= 60; n++) {
            CHECK.due("length", x.length(), n);
            x = x.then(o -> o.put(100, 0));
        }
        CHECK.due("not 61", x.length(), 60);
    }

    private static void whatIsNoField() {
        Run x = Run.present(Sample.BOOK);
        CHECK.due("a subfield", x.then(o -> o.subfield2(2, 'z', 'b')).length(), 3);
        CHECK.due("a byte of the leader", x.then(o -> o.leader(5, 'b')).length(), 3);
        CHECK.due("what is written", x.then(o -> o.write()).length(), 3);
        CHECK.due("a byte of the input", x.adding(Sample.bytes("x")).length(), 3);
        CHECK.due("what is refused", x.then(o -> o.put(1000, 0)).length(), 3);
    }

    private static void askingChangesNothing() {
        Run x = Run.present(Sample.BOOK);
        CHECK.same("length", x, x.then(o -> o.length()));
        CHECK.same("length without one", Run.start(), Run.start().then(o -> o.length()));
    }
}
