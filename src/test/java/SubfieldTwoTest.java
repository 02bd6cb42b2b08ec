/** Promise 11. */
public final class SubfieldTwoTest {
    private static final Check CHECK = new Check("SubfieldTwoTest");

    public static void main(String[] args) {
        lastOrNew();
        controlFields();
        lowestEightBits();
        marks();
        noSuchField();
        amongOtherFields();
        bound();
        boundOfCodesAndIndicators();
        boundCountsNoMarks();
        boundWithPut();
        boundOfThePresentRecordAlone();
        CHECK.end();
    }

    private static void fields(String what, ExchangeRecords x, String... due) {
        String got = Sample.written(x);
        String want = Sample.text(Sample.record(due));
        int leader = 24;
        CHECK.due(what + ": size", got.substring(0, 5), want.substring(0, 5));
        CHECK.due(what, got.substring(leader), want.substring(leader));
    }

    private static void lastOrNew() {
        ExchangeRecords x = Sample.present("245:12", "300:34$a$b", "400:56$axy$bz$aq");
        x.subfield2(1, 'a', 'p');
        fields("a first one", x, "245:12$ap", "300:34$a$b", "400:56$axy$bz$aq");
        x.subfield2(1, 'a', 'q');
        x.subfield2(1, 'b', 'r');
        x.subfield2(1, 'a', 's');
        fields("more", x, "245:12$apq$br$as", "300:34$a$b", "400:56$axy$bz$aq");
        x.subfield2(2, 'b', 't');
        x.subfield2(2, 'a', 'u');
        fields("an empty last one", x, "245:12$apq$br$as", "300:34$a$bt$au", "400:56$axy$bz$aq");
        x.subfield2(3, 'a', 'v');
        x.subfield2(3, 'b', 'w');
        fields("the last one alone", x, "245:12$apq$br$as", "300:34$a$bt$au", "400:56$axy$bz$aqv$bw");
        x.subfield2(1, 's', 's');
        x.subfield2(1, '2', '2');
        fields("a byte or an indicator is no code", x,
                "245:12$apq$br$as$ss$22", "300:34$a$bt$au", "400:56$axy$bz$aqv$bw");
    }

    private static void controlFields() {
        ExchangeRecords x = Sample.present("009:", "001:ab");
        x.subfield2(1, 'a', 'x');
        x.subfield2(1, 'b', 'y');
        x.subfield2(2, 30, 'z');
        x.subfield2(2, -1, 200);
        fields("control fields", x, "009:xy", "001:abz\u00c8");
    }

    private static void lowestEightBits() {
        ExchangeRecords x = Sample.present("245:12");
        x.subfield2(1, 256 + 'a', 512 + 'x');
        x.subfield2(1, 'a' - 256, 'y' - 256);
        x.subfield2(1, 'a', 'z');
        fields("the lowest bits", x, "245:12$axyz");
        x.subfield2(1, -1, -1);
        x.subfield2(1, 255, 0);
        CHECK.due("byte 0", x.subfield(1, 0, 255, 0), 255);
        CHECK.due("byte 1", x.subfield(1, 0, 255, 1), 0);
    }

    private static void marks() {
        ExchangeRecords x = Sample.present("245:12", "300:34$ab", "001:c");
        for (int mark = 29; mark <= 31; mark++) {
            for (int high : new int[] {0, 256, -256}) {
                for (int field = 1; field <= 3; field++) {
                    x.subfield2(field, 'a', mark + high);
                    x.subfield2(field, 'z', mark + high);
                }
                x.subfield2(1, mark + high, 'x');
                x.subfield2(2, mark + high, 'x');
            }
        }
        fields("marks", x, "245:12", "300:34$ab", "001:c");
        x.subfield2(1, 28, 28);
        x.subfield2(2, 32, 32);
        fields("beside the marks", x, "245:12$\u001c\u001c", "300:34$ab$  ", "001:c");
    }

    private static void noSuchField() {
        ExchangeRecords x = Sample.present("245:12", "001:c");
        for (int field : new int[] {0, -1, 3, 60, 61, Integer.MIN_VALUE, Integer.MAX_VALUE}) {
            x.subfield2(field, 'a', 'b');
        }
        fields("no such field", x, "245:12", "001:c");
        ExchangeRecords none = new ExchangeRecords();
        none.subfield2(1, 'a', 'b');
        CHECK.due("no record", none.length(), -1);
    }

    private static void amongOtherFields() {
        ExchangeRecords x = Sample.present(Sample.BOOK);
        for (int i = 0; i < 40; i++) {
            x.subfield2(1, 0, 'a' + i % 26);
            x.subfield2(2, 'c', 'A' + i % 26);
        }
        String letters = "abcdefghijklmnopqrstuvwxyzabcdefghijklmn";
        fields("long ones", x, "001:id7" + letters, "245:10$aTitle$bsub$c" + letters.toUpperCase(), "245:  $aX");
        ExchangeRecords y = Sample.holding(Sample.BOOK, Sample.BOOK);
        y.read();
        y.subfield2(1, 0, 'x');
        y.read();
        fields("the next record is as it was read", y, "001:id7", "245:10$aTitle$bsub", "245:  $aX");
    }

    /** An object with so many bytes in the fields: 11 control fields that share theirs, and the rest. */
    private static ExchangeRecords control(int held) {
        return Sample.present(controlRecord(held));
    }

    private static byte[] controlRecord(int held) {
        int shares = 11;
        int each = held / shares;
        int rest = held - each * shares;
        String row = Sample.row("001", each + 1, 0);
        String rows = row.repeat(shares) + Sample.row("002", rest + 1, each - rest);
        return Sample.framed(rows, "x".repeat(each) + "^");
    }

    private static int sizeOf(ExchangeRecords x, int field) {
        int size = 0;
        while (x.subfield(field, 0, 'a', size) != -1) {
            size++;
        }
        return size;
    }

    private static void bound() {
        ExchangeRecords x = control(1198);
        int size = sizeOf(x, 12);
        x.subfield2(12, 0, 'y');
        x.subfield2(12, 0, 'y');
        CHECK.due("up to 1,200", sizeOf(x, 12), size + 2);
        int other = sizeOf(x, 1);
        x.subfield2(12, 0, 'y');
        x.subfield2(1, 0, 'y');
        CHECK.due("not beyond", sizeOf(x, 12), size + 2);
        CHECK.due("nor in another field", sizeOf(x, 1), other);
        ExchangeRecords above = control(1300);
        int before = above.write();
        above.subfield2(1, 0, 'y');
        CHECK.due("one that was read with more", above.write(), before);
    }

    private static void boundOfCodesAndIndicators() {
        ExchangeRecords x = control(1195);
        x.put(100, 0);
        x.subfield2(13, 'a', 'b');
        CHECK.due("1,195 and 2 and 2", sizeOf(x, 13), 1);
        x.subfield2(13, 'b', 'c');
        CHECK.due("a new one is too much", x.subfield(13, 0, 'b', 0), -1);
        x.subfield2(13, 'a', 'c');
        CHECK.due("a byte alone is not", sizeOf(x, 13), 2);
        x.subfield2(13, 'a', 'd');
        CHECK.due("another is", sizeOf(x, 13), 2);
        ExchangeRecords y = control(1196);
        y.put(100, 0);
        y.subfield2(13, 'a', 'b');
        CHECK.due("1,196 and 2 and 2", sizeOf(y, 13), 1);
        ExchangeRecords z = control(1197);
        z.put(100, 0);
        z.subfield2(13, 'a', 'b');
        CHECK.due("1,197 and 2 and 2", sizeOf(z, 13), 0);
        z.subfield2(1, 'a', 'b');
        CHECK.due("1,197 and 2 and 1", sizeOf(z, 1), 109);
    }

    /** The 31s and the fields' ends stand in the form alone: the fields do not have them. */
    private static void boundCountsNoMarks() {
        // 20 * (2 + 19 + 20) = 820 bytes, but 1,220 with each 31 and each end.
        String many = "12" + "$a".repeat(19) + "b".repeat(20);
        ExchangeRecords x = Sample.present(Sample.shared(20, "245", many));
        x.subfield2(1, 'a', 'c');
        CHECK.due("821 bytes", x.subfield(1, 18, 'a', 20), 'c');
        // 20 * (2 + 8 + 49) = 1,180 bytes: twenty more fit.
        String some = "12" + "$a".repeat(8) + "b".repeat(49);
        ExchangeRecords y = Sample.present(Sample.shared(20, "245", some));
        for (int i = 0; i < 30; i++) {
            y.subfield2(1, 'a', 'c');
        }
        CHECK.due("the twentieth", y.subfield(1, 7, 'a', 49 + 19), 'c');
        CHECK.due("no more", y.subfield(1, 7, 'a', 49 + 20), -1);
    }

    /** A control field's indicators are none and count nothing. */
    private static void boundWithPut() {
        ExchangeRecords x = control(1199);
        x.put(9, 0x4142);
        x.subfield2(13, 0, 'x');
        x.subfield2(13, 0, 'y');
        CHECK.due("a control field that was put", Sample.subfield(x, 13, 0, 0), "x");
        ExchangeRecords y = control(1199);
        y.put(10, 0x4142);
        y.subfield2(1, 0, 'x');
        CHECK.due("another field that was put", sizeOf(y, 1), 109);
    }

    /** An earlier record's fields and subfields count no more. */
    private static void boundOfThePresentRecordAlone() {
        ExchangeRecords x = Sample.holding(controlRecord(1300), Sample.record());
        x.read();
        x.read();
        x.put(1, 0);
        x.subfield2(1, 0, 'x');
        CHECK.due("behind a long one", sizeOf(x, 1), 1);
        ExchangeRecords y = Sample.holding(Sample.shared(12, "245", "12$a$a$a"), controlRecord(1200));
        y.read();
        y.read();
        int size = sizeOf(y, 1);
        y.subfield2(1, 0, 'x');
        CHECK.due("behind one of many subfields", sizeOf(y, 1), size);
    }
}
