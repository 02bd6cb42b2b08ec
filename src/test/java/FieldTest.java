/** Promise 4. */
public final class FieldTest {
    public static void main(String[] args) {
        Check check = new Check("FieldTest");
        ExchangeRecords x = Sample.present("245:12", "000:", "245:34", "999:56", "000:a", "245:78");
        check.due("field(245, 0)", x.field(245, 0), 1);
        check.due("field(245, 1)", x.field(245, 1), 3);
        check.due("field(245, 2)", x.field(245, 2), 6);
        check.due("field(245, 3)", x.field(245, 3), 0);
        check.due("field(0, 0)", x.field(0, 0), 2);
        check.due("field(0, 1)", x.field(0, 1), 5);
        check.due("field(0, 2)", x.field(0, 2), 0);
        check.due("field(999, 0)", x.field(999, 0), 4);
        check.due("field(999, 1)", x.field(999, 1), 0);
        for (int tag : new int[] {1, 24, 244, 246, 1000, 1245, -1, -245, Integer.MAX_VALUE, Integer.MIN_VALUE}) {
            check.due("no field " + tag, x.field(tag, 0), 0);
        }
        for (int i : new int[] {-1, -2, Integer.MIN_VALUE, Integer.MAX_VALUE}) {
            check.due("field(245, " + i + ")", x.field(245, i), 0);
        }
        x.put(245, 0);
        check.due("one that was put", x.field(245, 3), 7);
        x.put(50, 0);
        check.due("another that was put", x.field(50, 0), 8);
        ofTheNextRecordAlone(check);
        check.end();
    }

    private static void ofTheNextRecordAlone(Check check) {
        ExchangeRecords x = Sample.holding(Sample.BOOK, Sample.record("245:12"));
        x.read();
        check.due("of the first", x.field(245, 1), 3);
        x.read();
        check.due("of the second", x.field(245, 0), 1);
        check.due("no more of the first", x.field(245, 1), 0);
        check.due("nor another of the first", x.field(1, 0), 0);
    }
}
