/** Promise 8. */
public final class LengthTest {
    public static void main(String[] args) {
        Check check = new Check("LengthTest");
        check.due("without a record", new ExchangeRecords().length(), -1);
        check.due("three", Sample.present(Sample.BOOK).length(), 3);
        check.due("none", Sample.present().length(), 0);
        check.due("a new one", Sample.blank().length(), 0);
        check.due("the same bytes", Sample.present(Sample.shared(30, "001", "a")).length(), 30);
        ExchangeRecords x = Sample.present(Sample.BOOK);
        x.put(500, 0);
        check.due("with one more", x.length(), 4);
        x.put(1000, 0);
        check.due("with none more", x.length(), 4);
        x.subfield2(4, 'a', 'b');
        check.due("a subfield is no field", x.length(), 4);
        x.add((byte) 'x');
        check.due("a byte more in the input", x.length(), 4);
        Sample.addAll(x, Sample.bytes("x".repeat(30)));
        check.due("a wrong one", x.read(), -1);
        check.due("behind a wrong one", x.length(), -1);
        check.end();
    }
}
