/** Promise 3, and the order of what is wrong. */
public final class ReadTest {
    private static final Check CHECK = new Check("ReadTest");

    public static void main(String[] args) {
        oneAfterTheOther();
        notWholeYet();
        wrongTotal();
        wrongLeader();
        wrongBase();
        wrongEnds();
        tooManyRows();
        wrongRowDigits();
        wrongRowLength();
        wrongControlField();
        wrongOtherField();
        rightFields();
        theOrder();
        rowByRow();
        whereItGoesOn();
        thePresentRecord();
        CHECK.end();
    }

    /** The record alone, with a good one behind it: what read answers, and that it goes on behind. */
    private static void wrong(String what, byte[] record, int place) {
        ExchangeRecords x = Sample.holding(record, Sample.record("009:n"));
        CHECK.due(what, x.read(), -1 - place);
        CHECK.due(what + ": length", x.length(), -1);
        CHECK.due(what + ": the next", x.read(), 1);
        CHECK.due(what + ": its field", x.field(9, 0), 1);
    }

    private static void wrongToTheEnd(String what, byte[] record, int place) {
        ExchangeRecords x = Sample.holding(record, Sample.record("009:n"));
        CHECK.due(what, x.read(), -1 - place);
        CHECK.due(what + ": length", x.length(), -1);
        CHECK.due(what + ": nothing is left", x.read(), 0);
        Sample.addAll(x, Sample.record("008:m"));
        CHECK.due(what + ": what comes later", x.read(), 1);
        CHECK.due(what + ": its field", x.field(8, 0), 1);
    }

    private static void right(String what, byte[] record, int fields) {
        ExchangeRecords x = Sample.holding(record);
        CHECK.due(what, x.read(), 1);
        CHECK.due(what + ": length", x.length(), fields);
        CHECK.due(what + ": at the end", x.read(), 0);
    }

    private static void oneAfterTheOther() {
        ExchangeRecords x = Sample.holding(Sample.BOOK, Sample.record(), Sample.record("100:12$ab"));
        CHECK.due("first", x.read(), 1);
        CHECK.due("first length", x.length(), 3);
        CHECK.due("second", x.read(), 1);
        CHECK.due("second length", x.length(), 0);
        CHECK.due("third", x.read(), 1);
        CHECK.due("third length", x.length(), 1);
        CHECK.due("none left", x.read(), 0);
        CHECK.due("still the third", x.length(), 1);
    }

    private static void notWholeYet() {
        byte[] bad = Sample.with(Sample.record(), 0, 'x');
        ExchangeRecords x = new ExchangeRecords();
        for (int i = 0; i < 23; i++) {
            x.add(bad[i]);
        }
        CHECK.due("23 bytes, a wrong one", x.read(), 0);
        x.add(bad[23]);
        CHECK.due("24 bytes, a wrong one", x.read(), -1);

        byte[] badBase = Sample.with(Sample.record(), 12, 'x');
        ExchangeRecords y = new ExchangeRecords();
        for (int i = 0; i < 25; i++) {
            y.add(badBase[i]);
        }
        CHECK.due("one byte less than L", y.read(), 0);
        y.add(badBase[25]);
        CHECK.due("L bytes", y.read(), -13);

        ExchangeRecords z = Sample.holding(Sample.with(Sample.BOOK, 0, "99999"));
        CHECK.due("L far above", z.read(), 0);
        Sample.addAll(z, Sample.BOOK);
        CHECK.due("L still far above", z.read(), 0);
    }

    private static void wrongTotal() {
        int[] noDigits = {'x', ' ', '0' - 1, '9' + 1, 0, 255, 176};
        for (int p = 0; p < 5; p++) {
            for (int b : noDigits) {
                wrongToTheEnd("byte " + p + " is " + b, Sample.with(Sample.BOOK, p, b), p);
            }
        }
        wrongToTheEnd("two no digits", Sample.with(Sample.BOOK, 2, "x0x"), 2);
        for (int total : new int[] {0, 1, 24, 25}) {
            String digits = String.format("%05d", total);
            wrongToTheEnd("L is " + total, Sample.with(Sample.BOOK, 0, digits), 0);
        }
        ExchangeRecords x = new ExchangeRecords();
        for (int i = 0; i < 24; i++) {
            x.add((byte) '0');
        }
        CHECK.due("L is 0, 24 bytes", x.read(), -1);
    }

    private static void wrongLeader() {
        for (int p : new int[] {10, 11, 20, 21}) {
            for (int b : new int[] {'0', '3', '6', ' ', 0, 255}) {
                wrong("byte " + p + " is " + b, Sample.with(Sample.BOOK, p, b), p);
            }
        }
        wrong("20 is 5", Sample.with(Sample.BOOK, 20, '5'), 20);
        wrong("21 is 4", Sample.with(Sample.BOOK, 21, '4'), 21);
        for (int p : new int[] {5, 6, 7, 8, 9, 17, 18, 19, 22, 23}) {
            for (int b : new int[] {0, 29, 30, 31, 'x', 255}) {
                right("byte " + p + " is " + b, Sample.with(Sample.BOOK, p, b), 3);
            }
        }
    }

    private static void wrongBase() {
        for (int p = 12; p < 17; p++) {
            for (int b : new int[] {'a', ' ', '/', ':', 255}) {
                wrong("byte " + p + " is " + b, Sample.with(Sample.BOOK, p, b), p);
            }
        }
        for (int base : new int[] {0, 1, 13, 24, 26, 36, 38, 60, 62, 86, 87, 88, 97, 99997}) {
            String digits = String.format("%05d", base);
            wrong("BASE is " + base, Sample.with(Sample.BOOK, 12, digits), 12);
        }
        CHECK.due("the length of the sample", Sample.BOOK.length, 87);
        byte[] tight = Sample.framed(Sample.row("001", 0, 0), "");
        CHECK.due("the length of the tight one", tight.length, 38);
        wrong("BASE is L - 1", tight, 27);
        wrong("BASE is L", Sample.with(Sample.framed("", "x".repeat(11)), 12, "00037"), 12);
        wrong("BASE is L - 1 without its mark", Sample.with(Sample.framed("", "x".repeat(12)), 12, "00037"), 36);
    }

    private static void wrongEnds() {
        for (int b : new int[] {29, 31, '0', 0}) {
            wrong("BASE - 1 is " + b, Sample.with(Sample.BOOK, 60, b), 60);
        }
        for (int b : new int[] {30, 31, '0', 0}) {
            wrongToTheEnd("L - 1 is " + b, Sample.with(Sample.BOOK, 86, b), 86);
        }
        wrong("BASE is lower than its mark", Sample.with(Sample.BOOK, 12, "00049"), 48);
        wrong("an empty one without its mark", Sample.with(Sample.record(), 24, 29), 24);
    }

    /** More than 512 calls, where nothing is promised: this program keeps the bound there too. */
    private static void tooManyRows() {
        right("60 rows", Sample.shared(60, "001", ""), 60);
        wrong("61 rows", Sample.shared(61, "001", ""), 24);
        wrong("61 rows, the first with no digit", Sample.with(Sample.shared(61, "001", ""), 30, 'x'), 24);
        byte[] noEnd = Sample.shared(61, "001", "");
        wrongToTheEnd("61 rows and no end", Sample.with(noEnd, noEnd.length - 1, 'x'), noEnd.length - 1);
    }

    private static void wrongRowDigits() {
        for (int p = 24; p < 60; p++) {
            wrong("no digit at " + p, Sample.with(Sample.BOOK, p, 'x'), p);
        }
        wrong("two no digits in a row", Sample.with(Sample.with(Sample.BOOK, 40, ' '), 37, ':'), 37);
    }

    private static void wrongRowLength() {
        wrong("LENGTH 0", Sample.with(Sample.BOOK, 27, "0000"), 27);
        wrong("LENGTH 0 of another", Sample.with(Sample.BOOK, 39, "0000"), 39);
        wrong("LENGTH 1 of another", Sample.with(Sample.BOOK, 39, "0001"), 39);
        wrong("LENGTH 2 of another", Sample.with(Sample.BOOK, 39, "0002"), 39);
        wrong("LENGTH beyond", Sample.with(Sample.BOOK, 51, "0007"), 51);
        wrong("LENGTH far beyond", Sample.with(Sample.BOOK, 51, "9999"), 51);
        wrong("START beyond", Sample.with(Sample.BOOK, 55, "00020"), 51);
        wrong("START far beyond", Sample.with(Sample.BOOK, 55, "99999"), 51);
        wrong("LENGTH 2 of tag 10", Sample.framed(Sample.row("010", 2, 0), "1^"), 27);
        right("LENGTH 2 of tag 9", Sample.framed(Sample.row("009", 2, 0), "1^"), 1);
        right("LENGTH 1 of tag 0", Sample.framed(Sample.row("000", 1, 0), "^"), 1);
        right("LENGTH 3 of tag 10", Sample.framed(Sample.row("010", 3, 0), "12^"), 1);
        right("LENGTH 3 of tag 999", Sample.framed(Sample.row("999", 3, 0), "12^"), 1);
    }

    private static void wrongControlField() {
        for (int p = 61; p < 64; p++) {
            for (int b = 29; b <= 31; b++) {
                wrong(b + " in a control field at " + p, Sample.with(Sample.BOOK, p, b), p);
            }
        }
        for (int b : new int[] {29, 31, 'x'}) {
            wrong("a control field's last one is " + b, Sample.with(Sample.BOOK, 64, b), 64);
        }
        wrong("the only one is no end", Sample.framed(Sample.row("001", 1, 0), "x"), 37);
    }

    private static void wrongOtherField() {
        for (int b = 29; b <= 31; b++) {
            wrong("the first indicator is " + b, Sample.with(Sample.BOOK, 65, b), 65);
            wrong("the second indicator is " + b, Sample.with(Sample.BOOK, 66, b), 66);
            wrong("a code is " + b, Sample.with(Sample.BOOK, 68, b), 68);
            wrong("a later code is " + b, Sample.with(Sample.BOOK, 75, b), 75);
        }
        for (int b : new int[] {29, 30, 'x'}) {
            wrong("behind the indicators " + b, Sample.with(Sample.BOOK, 67, b), 67);
        }
        for (int p = 69; p < 74; p++) {
            wrong("29 in a subfield at " + p, Sample.with(Sample.BOOK, p, 29), p);
            wrong("30 in a subfield at " + p, Sample.with(Sample.BOOK, p, 30), p);
        }
        for (int b : new int[] {29, 31, 'x'}) {
            wrong("another field's last one is " + b, Sample.with(Sample.BOOK, 79, b), 79);
            wrong("the last of three is " + b, Sample.with(Sample.record("245:12"), 39, b), 39);
        }
        wrong("31 before the last one", Sample.with(Sample.BOOK, 78, 31), 78);
        wrong("31 before a last one that is none", Sample.with(Sample.BOOK, 78, "$x"), 78);
        wrong("31 alone", Sample.record("245:12$"), 39);
        wrong("31 twice at the end", Sample.record("245:12$$"), 40);
        wrong("31 twice", Sample.record("245:12$$a"), 40);
        wrong("31 behind a code before the last one", Sample.record("245:12$a$"), 41);
    }

    private static void rightFields() {
        right("a subfield without bytes", Sample.record("245:12$a"), 1);
        right("two subfields without bytes", Sample.record("245:12$a$b"), 1);
        right("31 behind a byte", Sample.with(Sample.BOOK, 70, 31), 3);
        right("the same bytes twice", Sample.shared(5, "245", "12$ab"), 5);
        String overlap = Sample.row("245", 8, 0) + Sample.row("001", 2, 6) + Sample.row("002", 3, 5);
        wrong("a control field over a code's 31", Sample.framed(
                Sample.row("245", 8, 0) + Sample.row("001", 6, 2), "12$abcd^"), 51);
        right("parts of another field", Sample.framed(overlap, "12$abcd^"), 3);
        right("bytes that no row tells", Sample.framed(Sample.row("001", 1, 3), "!$^^^x"), 1);
        right("rows in another order", Sample.framed(
                Sample.row("002", 2, 2) + Sample.row("001", 2, 0), "a^b^"), 2);
        right("any bytes as indicators and codes", Sample.record("245:\u0000\u00ff$\u0000\u0080"), 1);
    }

    /** Of two things that are wrong the earlier one of the document's order is told. */
    private static void theOrder() {
        byte[] b = Sample.BOOK;
        wrongToTheEnd("0 to 4 before L", Sample.with(b, 0, "0000x"), 4);
        wrongToTheEnd("L before 10", Sample.with(Sample.with(b, 0, "00025"), 10, 'x'), 0);
        wrong("10 before 11", Sample.with(b, 10, "xx"), 10);
        wrong("20 before 12", Sample.with(Sample.with(b, 20, 'x'), 12, 'x'), 20);
        wrong("21 before 12", Sample.with(Sample.with(b, 21, 'x'), 12, 'x'), 21);
        wrong("11 before 20", Sample.with(Sample.with(b, 20, 'x'), 11, 'x'), 11);
        wrong("20 before 21", Sample.with(b, 20, "xx"), 20);
        wrong("a digit of BASE before BASE", Sample.with(b, 12, "9999x"), 16);
        wrong("BASE before L - 1", Sample.with(Sample.with(b, 12, "00062"), 86, 'x'), 12);
        wrong("BASE - 1 before L - 1", Sample.with(Sample.with(b, 60, 'x'), 86, 'x'), 60);
        wrongToTheEnd("L - 1 before the rows", Sample.with(Sample.with(b, 24, 'x'), 86, 'x'), 86);
        wrong("a digit before LENGTH", Sample.with(Sample.with(b, 27, "0000"), 35, 'x'), 35);
    }

    /** A row and its field are looked at before the next row. */
    private static void rowByRow() {
        byte[] b = Sample.BOOK;
        wrong("field 1 before row 2", Sample.with(Sample.with(b, 61, 29), 36, 'x'), 61);
        wrong("row 2 before field 2", Sample.with(Sample.with(b, 65, 29), 36, 'x'), 36);
        wrong("field 2 before row 3", Sample.with(Sample.with(b, 79, 'x'), 48, 'x'), 79);
        wrong("byte by byte", Sample.with(Sample.with(b, 75, 31), 70, 29), 70);
        wrong("a code before the end", Sample.with(Sample.with(b, 79, 'x'), 68, 30), 68);
        wrong("row 1 far behind before row 2", Sample.framed(
                Sample.row("001", 2, 5) + Sample.row("00x", 2, 0), "12^34a!"), 55);
    }

    private static void whereItGoesOn() {
        ExchangeRecords x = Sample.holding(
                Sample.with(Sample.BOOK, 10, 'x'), Sample.with(Sample.BOOK, 61, 29), Sample.BOOK);
        CHECK.due("wrong one", x.read(), -11);
        CHECK.due("wrong two", x.read(), -62);
        CHECK.due("the good one", x.read(), 1);
        CHECK.due("its fields", x.length(), 3);
    }

    private static void thePresentRecord() {
        ExchangeRecords x = Sample.present(Sample.BOOK);
        Sample.addAll(x, Sample.with(Sample.record("005:ab"), 11, 'x'));
        CHECK.due("wrong", x.read(), -12);
        CHECK.due("no length", x.length(), -1);
        CHECK.due("no field", x.field(245, 0), 0);
        CHECK.due("no indicator", x.indicator(2, 0), -1);
        CHECK.due("no subfield", x.subfield(1, 0, 0, 0), -1);
        CHECK.due("no put", x.put(1, 0), 0);
        CHECK.due("no write", x.write(), -1);
        ExchangeRecords y = Sample.present(Sample.BOOK);
        y.put(100, 0);
        y.add((byte) 'x');
        CHECK.due("nothing happens", y.read(), 0);
        CHECK.due("what was built stays", y.length(), 4);
        Sample.addAll(y, Sample.bytes("x".repeat(23)));
        CHECK.due("wrong bytes", y.read(), -1);
        CHECK.due("what was built goes", y.length(), -1);
    }
}
