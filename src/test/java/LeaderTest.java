/** Promise 9. */
public final class LeaderTest {
    private static final int[] FREE = {5, 6, 7, 8, 9, 17, 18, 19, 22, 23};
    private static final int[] BOUND = {
        0, 1, 2, 3, 4, 10, 11, 12, 13, 14, 15, 16, 20, 21, 24, 25, -1, Integer.MIN_VALUE, Integer.MAX_VALUE
    };

    public static void main(String[] args) {
        Check check = new Check("LeaderTest");
        ofWhatWasRead(check);
        withoutRecord(check);
        eachMakesOne(check);
        afterAWrongOne(check);
        check.end();
    }

    private static void ofWhatWasRead(Check check) {
        ExchangeRecords x = Sample.present(Sample.BOOK);
        StringBuilder due = new StringBuilder(Sample.text(Sample.BOOK));
        for (int place : BOUND) {
            check.due("leader(" + place + ")", x.leader(place, 'z'), false);
        }
        check.due("nothing happened", Sample.written(x), due.toString());
        int v = 'A';
        for (int place : FREE) {
            check.due("leader(" + place + ")", x.leader(place, v), true);
            due.setCharAt(place, (char) v);
            v++;
        }
        check.due("written", Sample.written(x), due.toString());
        check.due("the fields stay", x.length(), 3);
        check.due("the lowest eight bits", x.leader(5, 0x12345 + 256), true);
        x.leader(6, -1);
        x.leader(7, 30);
        x.write();
        check.due("octet 5", x.octet(5), 0x45);
        check.due("octet 6", x.octet(6), -1);
        check.due("octet 7", x.octet(7), 30);
    }

    private static void withoutRecord(Check check) {
        ExchangeRecords x = new ExchangeRecords();
        for (int place : BOUND) {
            check.due("leader(" + place + ")", x.leader(place, 'z'), false);
            check.due("no record", x.length(), -1);
        }
        check.due("leader(9)", x.leader(9, 'z'), true);
        check.due("a record", x.length(), 0);
        check.due("its bytes", Sample.written(x), "00026    z2200025   45  ^!");
        check.due("leader(17)", x.leader(17, 'y'), true);
        check.due("the same record", Sample.written(x), "00026    z2200025y  45  ^!");
        x.put(1, 0);
        check.due("leader(18)", x.leader(18, 'w'), true);
        check.due("the field stays", x.length(), 1);
    }

    private static void eachMakesOne(Check check) {
        for (int place : FREE) {
            ExchangeRecords x = new ExchangeRecords();
            check.due("leader(" + place + ")", x.leader(place, 'z'), true);
            StringBuilder due = new StringBuilder("00026     2200025   45  ^!");
            due.setCharAt(place, 'z');
            check.due("its bytes", Sample.written(x), due.toString());
        }
    }

    private static void afterAWrongOne(Check check) {
        ExchangeRecords x = Sample.holding(Sample.BOOK, Sample.with(Sample.BOOK, 79, 'x'));
        check.due("good", x.read(), 1);
        check.due("wrong", x.read(), -80);
        check.due("leader(10)", x.leader(10, '2'), false);
        check.due("no record", x.length(), -1);
        check.due("leader(23)", x.leader(23, 'e'), true);
        check.due("spaces, without fields", Sample.written(x), "00026     2200025   45 e^!");
    }
}
