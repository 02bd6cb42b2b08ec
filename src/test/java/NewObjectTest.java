/** Promise 1: a new object. */
public final class NewObjectTest {
    private static final Check CHECK = new Check("NewObjectTest");

    public static void main(String[] args) {
        none();
        theInputIsEmpty();
        thereIsNoPresentRecord();
        nothingWasWritten();
        noDirectoryWasRead();
        whatIsRefusedLeavesItNew();
        twoObjectsAreApart();
        CHECK.end();
    }

    /** "NONE = -1: None such." */
    private static void none() {
        CHECK.due("NONE", ExchangeRecords.NONE, -1);
    }

    /** "The input is empty": nothing can be read, and the first byte that comes is the first of all. */
    private static void theInputIsEmpty() {
        CHECK.due("read", Run.start().read(), 0);
        CHECK.due("read again", Run.start().reading().read(), 0);
        CHECK.due("the first record", Run.holding(Sample.record()).read(), 1);
        CHECK.due("a byte less", Run.holding(Sample.firstOf(Sample.record(), 25)).read(), 0);
    }

    /** "there is no present record": no call finds one. */
    private static void thereIsNoPresentRecord() {
        Run x = Run.start();
        CHECK.due("length", x.length(), -1);
        for (int n = -1; n <= 2; n++) {
            int number = n;
            CHECK.due("field(0, " + n + ")", x.answer(o -> o.field(0, number)), 0);
            CHECK.due("indicator(" + n + ", 0)", x.answer(o -> o.indicator(number, 0)), -1);
            CHECK.due("subfield(" + n + ", 0, 0, 0)", x.answer(o -> o.subfield(number, 0, 0, 0)), -1);
        }
        CHECK.due("put", x.answer(o -> o.put(1, 0)), 0);
        CHECK.due("write", x.answer(o -> o.write()), -1);
    }

    /** "nothing was written": there is no byte of it. */
    private static void nothingWasWritten() {
        for (int i = -1; i <= 1; i++) {
            int place = i;
            CHECK.dueThrow("octet(" + i + ")", Run.start(), x -> x.octet(place));
        }
    }

    private static void noDirectoryWasRead() {
        for (int i = -1; i <= 1; i++) {
            int row = i;
            CHECK.dueThrow("directory(" + i + ", 0)", Run.start(), x -> x.directory(row, 0));
        }
    }

    private static void whatIsRefusedLeavesItNew() {
        Run fresh = Run.start();
        CHECK.same("read", fresh, fresh.reading());
        CHECK.same("put", fresh, fresh.then(x -> x.put(1, 0)));
        CHECK.same("subfield2", fresh, fresh.then(x -> x.subfield2(1, 'a', 'b')));
        CHECK.same("leader", fresh, fresh.then(x -> x.leader(4, 'b')));
        CHECK.same("write", fresh, fresh.then(x -> x.write()));
        CHECK.same("asking", fresh, fresh.then(x -> x.length()).then(x -> x.field(1, 0))
                .then(x -> x.indicator(1, 0)).then(x -> x.subfield(1, 0, 0, 0)));
    }

    /** All that an object holds is its own. */
    private static void twoObjectsAreApart() {
        ExchangeRecords first = new ExchangeRecords();
        ExchangeRecords second = new ExchangeRecords();
        for (byte b : Sample.BOOK) {
            first.add(b);
        }
        CHECK.due("read of the second", second.read(), 0);
        CHECK.due("read of the first", first.read(), 1);
        first.write();
        CHECK.due("length of the second", second.length(), -1);
        CHECK.dueThrow("octet of the second", () -> second.octet(0));
        CHECK.dueThrow("directory of the second", () -> second.directory(0, 0));
        second.leader(5, 'z');
        second.put(100, 0);
        CHECK.due("length of the first", first.length(), 3);
        CHECK.due("indicator of the first", first.indicator(2, 0), '1');
        CHECK.due("octet of the first", first.octet(5), 'n');
    }
}
