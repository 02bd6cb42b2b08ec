/** Promise 13. */
public final class OctetTest {
    private static final int[] NEVER = {-1, -2, 100000, Integer.MIN_VALUE, Integer.MAX_VALUE};

    public static void main(String[] args) {
        Check check = new Check("OctetTest");
        ExchangeRecords x = Sample.present(Sample.BOOK);
        check.dueThrow("nothing was written", () -> x.octet(0));
        x.write();
        for (int i = 0; i < Sample.BOOK.length; i++) {
            check.due("octet " + i, x.octet(i), Sample.BOOK[i]);
        }
        check.dueThrow("behind the last", () -> x.octet(Sample.BOOK.length));
        for (int i : NEVER) {
            check.dueThrow("octet " + i, () -> x.octet(i));
        }
        x.subfield2(1, 0, 'z');
        x.leader(5, 'z');
        check.due("what was written stays", x.octet(5), 'n');
        check.dueThrow("until the next time", () -> x.octet(Sample.BOOK.length));
        x.write();
        check.due("the latest", x.octet(5), 'z');
        check.due("a byte more", x.octet(Sample.BOOK.length), 29);
        aShorterOne(check);
        check.end();
    }

    private static void aShorterOne(Check check) {
        ExchangeRecords x = Sample.holding(Sample.record("001:\u00ff" + "x".repeat(300)), Sample.record());
        x.read();
        x.write();
        check.due("a byte above 127", x.octet(37), -1);
        check.due("a long one", x.octet(338), 30);
        x.read();
        check.due("reading writes nothing", x.octet(339), 29);
        x.write();
        check.due("a short one", x.octet(25), 29);
        check.dueThrow("no more of the long one", () -> x.octet(26));
        check.dueThrow("nor its end", () -> x.octet(339));
    }
}
