/** Promise 7. */
public final class DirectoryTest {
    public static void main(String[] args) {
        Check check = new Check("DirectoryTest");
        ExchangeRecords x = Sample.present(Sample.BOOK);
        theRows(check, x, "001 4 0, 245 15 4, 245 6 19, ");
        for (int what : new int[] {-1, 3, 4, Integer.MIN_VALUE, Integer.MAX_VALUE}) {
            check.due("another what " + what, x.directory(2, what), -1);
            check.dueThrow("no row, another what " + what, () -> x.directory(3, what));
        }
        for (int i : new int[] {-1, 3, 60, 61, Integer.MIN_VALUE, Integer.MAX_VALUE, 1431655766}) {
            for (int what = 0; what < 3; what++) {
                int asked = what;
                check.dueThrow("row " + i, () -> x.directory(i, asked));
            }
        }
        whatDoesNotChangeIt(check, x);
        ofTheLatest(check);
        asItWasRead(check);
        check.end();
    }

    private static void theRows(Check check, ExchangeRecords x, String due) {
        StringBuilder got = new StringBuilder();
        for (int i = 0; i < due.split(", ").length; i++) {
            got.append(String.format("%03d ", x.directory(i, 0)));
            got.append(x.directory(i, 1)).append(' ').append(x.directory(i, 2)).append(", ");
        }
        check.due("the rows", got.toString(), due);
    }

    private static void whatDoesNotChangeIt(Check check, ExchangeRecords x) {
        x.put(700, 0);
        x.subfield2(1, 0, 'x');
        x.write();
        check.due("the length stays", x.directory(0, 1), 4);
        check.dueThrow("what was put is no row", () -> x.directory(3, 0));
        Sample.addAll(x, Sample.with(Sample.record("005:ab"), 24, "999x"));
        check.due("a wrong one", x.read(), -28);
        theRows(check, x, "001 4 0, 245 15 4, 245 6 19, ");
        check.due("a new record", x.leader(5, 'a'), true);
        theRows(check, x, "001 4 0, 245 15 4, 245 6 19, ");
        check.due("not whole", x.read(), 0);
        theRows(check, x, "001 4 0, 245 15 4, 245 6 19, ");
    }

    private static void ofTheLatest(Check check) {
        ExchangeRecords x = Sample.holding(Sample.BOOK, Sample.record("005:ab"), Sample.record());
        x.read();
        x.read();
        theRows(check, x, "005 3 0, ");
        check.dueThrow("no more of the first", () -> x.directory(1, 0));
        x.read();
        check.dueThrow("a record without rows", () -> x.directory(0, 0));
        check.dueThrow("a record without rows, another what", () -> x.directory(0, 7));
        ExchangeRecords blank = Sample.blank();
        blank.put(1, 0);
        check.dueThrow("one that was not read", () -> blank.directory(0, 0));
        ExchangeRecords wrong = Sample.holding(Sample.with(Sample.BOOK, 79, 'x'));
        wrong.read();
        check.dueThrow("one that was wrong", () -> wrong.directory(0, 0));
    }

    private static void asItWasRead(Check check) {
        String rows = Sample.row("002", 2, 9) + Sample.row("999", 3, 2) + Sample.row("000", 1, 4);
        ExchangeRecords x = Sample.present(Sample.framed(rows, "xx12^yyyya^"));
        theRows(check, x, "002 2 9, 999 3 2, 000 1 4, ");
    }
}
