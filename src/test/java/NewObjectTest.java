/** Promise 1. */
public final class NewObjectTest {
    public static void main(String[] args) {
        Check check = new Check("NewObjectTest");
        check.due("NONE", ExchangeRecords.NONE, -1);
        ExchangeRecords x = new ExchangeRecords();
        check.due("read of the empty input", x.read(), 0);
        check.due("length", x.length(), -1);
        check.due("field(0, 0)", x.field(0, 0), 0);
        check.due("indicator(1, 0)", x.indicator(1, 0), -1);
        check.due("subfield(1, 0, 0, 0)", x.subfield(1, 0, 0, 0), -1);
        check.due("put", x.put(1, 0), 0);
        x.subfield2(1, 'a', 'b');
        check.due("length after put and subfield2", x.length(), -1);
        check.due("leader(0, 0)", x.leader(0, 0), false);
        check.due("write", x.write(), -1);
        check.dueThrow("octet(0)", () -> x.octet(0));
        check.dueThrow("directory(0, 0)", () -> x.directory(0, 0));
        twoObjectsAreApart(check);
        check.end();
    }

    private static void twoObjectsAreApart(Check check) {
        ExchangeRecords first = Sample.present(Sample.BOOK);
        ExchangeRecords second = new ExchangeRecords();
        first.write();
        check.due("length of the second", second.length(), -1);
        check.due("read of the second", second.read(), 0);
        check.dueThrow("octet of the second", () -> second.octet(0));
        check.dueThrow("directory of the second", () -> second.directory(0, 0));
        check.due("length of the first", first.length(), 3);
    }
}
