/** Promise 10. */
public final class PutTest {
    public static void main(String[] args) {
        Check check = new Check("PutTest");
        tags(check);
        indicators(check);
        sixty(check);
        withoutBytes(check);
        thereIsNoOtherBound(check);
        check.end();
    }

    private static void tags(Check check) {
        ExchangeRecords x = new ExchangeRecords();
        check.due("without a record", x.put(1, 0), 0);
        check.due("no record is made", x.length(), -1);
        x.leader(5, 'a');
        int number = 0;
        for (int tag : new int[] {0, 9, 10, 245, 999, 245}) {
            number++;
            check.due("put(" + tag + ")", x.put(tag, 0), number);
            check.due("length", x.length(), number);
        }
        for (int tag : new int[] {-1, 1000, 1001, Integer.MIN_VALUE, Integer.MAX_VALUE}) {
            check.due("put(" + tag + ")", x.put(tag, 0), 0);
            check.due("length", x.length(), number);
        }
        check.due("the second 245", x.field(245, 1), 6);
        ExchangeRecords y = Sample.present(Sample.BOOK);
        check.due("behind what was read", y.put(1, 0), 4);
        check.due("found", y.field(1, 1), 4);
    }

    private static void indicators(Check check) {
        int[][] rows = {
            {0, 0, 0}, {'1' << 8 | '2', '1', '2'}, {255, 0, 255}, {256, 1, 0}, {0xffff, 255, 255},
            {0x12345678, 0x56, 0x78}, {-1, 255, 255}, {0x10000, 0, 0}, {Integer.MIN_VALUE, 0, 0},
            {29 << 8 | 31, 29, 31}
        };
        ExchangeRecords x = Sample.blank();
        for (int i = 0; i < rows.length; i++) {
            check.due("put", x.put(100, rows[i][0]), i + 1);
            check.due("first of " + rows[i][0], x.indicator(i + 1, 0), rows[i][1]);
            check.due("second of " + rows[i][0], x.indicator(i + 1, 1), rows[i][2]);
        }
    }

    private static void sixty(Check check) {
        ExchangeRecords x = Sample.present(Sample.BOOK);
        for (int number = 4; number <= 60; number++) {
            check.due("put " + number, x.put(number, 0), number);
        }
        check.due("61", x.put(61, 0), 0);
        check.due("61 again", x.put(1, 0), 0);
        check.due("length", x.length(), 60);
        check.due("the last", x.field(60, 0), 60);
        check.due("none more", x.field(61, 0), 0);
    }

    private static void withoutBytes(Check check) {
        ExchangeRecords x = Sample.holding(Sample.BOOK, Sample.record());
        x.read();
        x.read();
        x.put(1, 0);
        x.put(245, '3' << 8 | '4');
        x.put(2, 0);
        check.due("a control field", x.subfield(1, 0, 0, 0), -1);
        check.due("another one", x.subfield(2, 0, 'a', 0), -1);
        check.due("written", Sample.written(x), Sample.text(Sample.record("001:", "245:34", "002:")));
    }

    /** The bound on bytes is subfield2's alone. */
    private static void thereIsNoOtherBound(Check check) {
        ExchangeRecords x = Sample.present(Sample.shared(20, "001", "x".repeat(100)));
        check.due("beyond 1,200 bytes", x.put(100, 0), 21);
        check.due("written", x.write(), 24 + 21 * 12 + 1 + 20 * 101 + 3 + 1);
    }
}
