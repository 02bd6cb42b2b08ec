/** Promise 12. */
public final class WriteTest {
    private static final Check CHECK = new Check("WriteTest");

    public static void main(String[] args) {
        asRead();
        fromNothing();
        inOrder();
        sharedBytes();
        sixtyFields();
        indicators();
        earlierIndicators();
        nothingIsWritten();
        writtenIsRead();
        CHECK.end();
    }

    private static void asRead() {
        CHECK.due("size", Sample.present(Sample.BOOK).write(), Sample.BOOK.length);
        byte[][] records = {
            Sample.BOOK, Sample.record(), Sample.record("000:", "999:\u00ff\u0000$\u00ff$\u0000\u0080"),
            Sample.with(Sample.BOOK, 5, 30), Sample.with(Sample.BOOK, 23, 255),
            Sample.record("001:" + "long".repeat(100))
        };
        for (byte[] record : records) {
            ExchangeRecords x = Sample.present(record);
            CHECK.due("as read", Sample.written(x), Sample.text(record));
            CHECK.due("again", Sample.written(x), Sample.text(record));
        }
    }

    private static void fromNothing() {
        ExchangeRecords x = new ExchangeRecords();
        CHECK.due("no record", x.write(), -1);
        x.leader(5, 'n');
        CHECK.due("without fields", Sample.written(x), "00026n    2200025   45  ^!");
        x.put(7, 0);
        CHECK.due("an empty control field", Sample.written(x), "00039n    2200037   45  007000100000^^!");
        x.put(50, 'a' << 8 | 'b');
        CHECK.due("a field without subfields", Sample.written(x),
                "00054n    2200049   45  007000100000050000300001^^ab^!");
        x.subfield2(1, 0, 'q');
        x.subfield2(2, 'c', 'd');
        x.subfield2(2, 'e', 'f');
        CHECK.due("with bytes", Sample.written(x),
                "00061n    2200049   45  007000200000050000900002^q^ab$cd$ef^!");
    }

    /** Whatever the order of their bytes was when they were read. */
    private static void inOrder() {
        String rows = Sample.row("002", 2, 9) + Sample.row("999", 3, 2) + Sample.row("000", 1, 4);
        ExchangeRecords x = Sample.present(Sample.framed(rows, "xx12^yyyya^"));
        CHECK.due("in order", Sample.written(x), Sample.text(Sample.record("002:a", "999:12", "000:")));
    }

    private static void sharedBytes() {
        ExchangeRecords x = Sample.present(Sample.shared(20, "245", "12$a" + "x".repeat(230)));
        int total = 24 + 20 * 12 + 1 + 20 * 235 + 1;
        CHECK.due("each has its own", x.write(), total);
        CHECK.due("the last one", x.octet(total - 1), 29);
        CHECK.due("L", x.octet(1) * 1000 + x.octet(2) * 100 + x.octet(3) * 10 + x.octet(4) - 48 * 1111, total);
        String[] fields = new String[20];
        java.util.Arrays.fill(fields, "245:12$a" + "x".repeat(230));
        CHECK.due("written", Sample.written(x), Sample.text(Sample.record(fields)));
    }

    private static void sixtyFields() {
        ExchangeRecords x = Sample.blank();
        String[] fields = new String[60];
        for (int i = 0; i < 60; i++) {
            x.put(i, 'p' << 8 | 'q');
            x.subfield2(i + 1, 'a', 'b');
            fields[i] = String.format("%03d:", i) + (i < 10 ? "b" : "pq$ab");
        }
        String due = Sample.text(Sample.record(fields));
        CHECK.due("size", x.write(), due.length());
        CHECK.due("sixty fields", Sample.written(x).substring(24), due.substring(24));
    }

    /** A field that is no more, of a record before, forbids nothing. */
    private static void earlierIndicators() {
        ExchangeRecords x = Sample.holding(Sample.record());
        x.leader(5, 'a');
        x.put(100, 30 << 8 | 30);
        CHECK.due("forbidden", x.write(), -1);
        CHECK.due("the next record", x.read(), 1);
        CHECK.due("allowed", x.write(), 26);
    }

    private static void indicators() {
        for (int b = 28; b <= 32; b++) {
            boolean mark = b != 28 && b != 32;
            ExchangeRecords first = Sample.blank();
            first.put(10, b << 8 | 'x');
            CHECK.due("first " + b, first.write(), mark ? -1 : 41);
            ExchangeRecords second = Sample.blank();
            second.put(10, 'x' << 8 | b);
            CHECK.due("second " + b, second.write(), mark ? -1 : 41);
            ExchangeRecords control = Sample.blank();
            control.put(9, b << 8 | b);
            CHECK.due("of a control field " + b, control.write(), 39);
            ExchangeRecords last = Sample.present(Sample.BOOK);
            last.put(500, 'x' << 8 | b);
            last.put(500, 'x' << 8 | 'y');
            CHECK.due("among others " + b, last.write(), mark ? -1 : Sample.BOOK.length + 30);
        }
    }

    /** What was written before stays. */
    private static void nothingIsWritten() {
        ExchangeRecords x = Sample.present(Sample.BOOK);
        x.write();
        x.put(10, 31);
        CHECK.due("an indicator", x.write(), -1);
        CHECK.due("the latest", x.octet(4), Sample.BOOK[4]);
        CHECK.due("its end", x.octet(Sample.BOOK.length - 1), 29);
        Sample.addAll(x, Sample.bytes("x".repeat(24)));
        CHECK.due("a wrong one", x.read(), -1);
        CHECK.due("no record", x.write(), -1);
        CHECK.due("the latest still", x.octet(Sample.BOOK.length - 1), 29);
    }

    private static void writtenIsRead() {
        ExchangeRecords x = Sample.blank();
        x.put(245, '1' << 8 | '0');
        x.subfield2(1, 'a', 'T');
        x.put(1, 0);
        x.subfield2(2, 0, 'i');
        byte[] written = Sample.bytes(Sample.written(x));
        Sample.addAll(x, written);
        CHECK.due("read", x.read(), 1);
        CHECK.due("length", x.length(), 2);
        CHECK.due("subfield", x.subfield(1, 0, 'a', 0), 'T');
        CHECK.due("directory", x.directory(1, 2), 6);
        CHECK.due("written again", Sample.written(x), Sample.text(written));
    }
}
