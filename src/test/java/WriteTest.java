/** Promise 12: write. */
public final class WriteTest {
    private static final Check CHECK = new Check("WriteTest");

    public static void main(String[] args) {
        inTheForm();
        asItWasRead();
        whatItsLeaderHas();
        howManyBytes();
        digitsOfLengths();
        digitsOfStarts();
        oneBehindTheOtherInOrder();
        eachHasItsOwnBytes();
        fromNoneToSixtyFields();
        noneWithoutARecord();
        noneWithAMarkAsIndicator();
        aMarkAmongOtherFields();
        indicatorsOfControlFields();
        indicatorsOfEarlierRecords();
        nothingIsWritten();
        writtenIsRead();
        writingChangesNothing();
        CHECK.end();
    }

    /** "The present record is written in the form": byte by byte, without fields and with each kind of field. */
    private static void inTheForm() {
        Run x = Run.start().then(o -> o.leader(5, 'n'));
        CHECK.due("without fields", x.written(), "00026n    2200025   45  ^!");
        x = x.then(o -> o.put(7, 0));
        CHECK.due("an empty control field", x.written(), "00039n    2200037   45  007000100000^^!");
        x = x.then(o -> o.put(50, 'a' << 8 | 'b'));
        CHECK.due("a field without subfields", x.written(),
                "00054n    2200049   45  007000100000050000300001^^ab^!");
        x = x.then(o -> o.subfield2(1, 0, 'q')).then(o -> o.subfield2(2, 'c', 'd')).then(o -> o.subfield2(2, 'e', 'f'));
        CHECK.due("with bytes", x.written(),
                "00061n    2200049   45  007000200000050000900002^q^ab$cd$ef^!");
    }

    private static void asItWasRead() {
        byte[][] records = {
            Sample.BOOK, Sample.record(), Sample.record("000:", "999:\u00ff\u0000$\u00ff$\u0000\u0080"),
            Sample.record("245:12$a$b$a", "010:34"), Sample.record("001:" + "long".repeat(100))
        };
        for (byte[] record : records) {
            Run x = Run.present(record);
            CHECK.due("size", x.answer(o -> o.write()), record.length);
            CHECK.due("as read", x.written(), Sample.text(record));
            CHECK.due("again", x.then(o -> o.write()).written(), Sample.text(record));
        }
    }

    /** "with what its leader has where it may be any" */
    private static void whatItsLeaderHas() {
        for (int place : new int[] {5, 6, 7, 8, 9, 17, 18, 19, 22, 23}) {
            for (int b : new int[] {0, 29, 30, 31, 127, 128, 255}) {
                byte[] record = Sample.with(Sample.BOOK, place, b);
                CHECK.due("byte " + place + " is " + b, Run.present(record).written(), Sample.text(record));
            }
        }
    }

    /** "and all lengths: how many bytes": the answer is L, as the last byte's place and the digits tell. */
    private static void howManyBytes() {
        for (int size : new int[] {0, 1, 60, 61, 62, 100, 217, 218, 219, 400}) {
            Run x = Run.present("001:" + "x".repeat(size));
            long total = x.answer(o -> o.write());
            CHECK.due("size " + size, total, 39 + size);
            Run after = x.then(o -> o.write());
            CHECK.due("last of " + size, after.answer(o -> o.octet(38 + size)), 29);
            CHECK.dueThrow("behind the last of " + size, after, o -> o.octet(39 + size));
            CHECK.due("L of " + size, after.octets().substring(0, 5), String.format("%05d", total));
        }
    }

    /** LENGTH of 9, 10, 99, 100 and so on, up to what 1,200 bytes allow. */
    private static void digitsOfLengths() {
        for (int length : new int[] {1, 2, 9, 10, 11, 99, 100, 101, 450}) {
            Run x = Run.present(Sample.shared(1, "001", "x".repeat(length - 1)));
            CHECK.due("LENGTH " + length, x.written().substring(27, 31), String.format("%04d", length));
        }
        Run longest = Run.beyond().adding(Sample.record("001:" + "x".repeat(996)), Sample.record()).reading();
        CHECK.due("LENGTH 997", longest.written().substring(27, 31), "0997");
        for (int length = 998; length <= 1001; length++) {
            longest = longest.then(x -> x.subfield2(1, 0, 'y'));
            CHECK.due("LENGTH " + length, longest.written().substring(27, 31), String.format("%04d", length));
        }
    }

    /** START and L of 999, 1,000 and so on: fields that shared their bytes no longer do. */
    private static void digitsOfStarts() {
        for (int length : new int[] {110, 111, 112}) {
            Run x = Run.present(Sample.shared(10, "001", "x".repeat(length - 1)));
            String start = x.written().substring(24 + 9 * 12 + 7, 24 + 10 * 12);
            CHECK.due("START of the tenth of " + length, start, String.format("%05d", 9 * length));
        }
        for (int size = 0; size < 3; size++) {
            String text = "x".repeat(83);
            Run x = Run.present(Sample.framed(Sample.row("001", 84, 0).repeat(10) + Sample.row("002", 1 + size, 83 - size),
                    text + "^"));
            int total = 25 + 11 * 12 + 840 + 1 + size + 1;
            CHECK.due("L is about 1,000", total, 999 + size);
            CHECK.due("write", x.answer(o -> o.write()), total);
            CHECK.due("L", x.written().substring(0, 5), String.format("%05d", total));
        }
    }

    /** "the fields one behind the other in order": of the rows, whatever the order of their bytes was. */
    private static void oneBehindTheOtherInOrder() {
        String rows = Sample.row("002", 2, 9) + Sample.row("999", 3, 2) + Sample.row("000", 1, 4);
        Run x = Run.present(Sample.framed(rows, "xx12^yyyya^"));
        CHECK.due("in order", x.written(), Sample.text(Sample.record("002:a", "999:12", "000:")));
        Run more = x.then(o -> o.put(1, 0)).then(o -> o.subfield2(1, 0, 'b'));
        CHECK.due("and what was put", more.written(), Sample.text(Sample.record("002:ab", "999:12", "000:", "001:")));
    }

    private static void eachHasItsOwnBytes() {
        String field = "245:12$a" + "x".repeat(200);
        Run x = Run.present(Sample.shared(20, "245", field.substring(4)));
        String[] fields = new String[20];
        java.util.Arrays.fill(fields, field);
        byte[] due = Sample.record(fields);
        CHECK.due("size", x.answer(o -> o.write()), due.length);
        CHECK.due("written", x.written(), Sample.text(due));
    }

    private static void fromNoneToSixtyFields() {
        Run x = Run.blank();
        String[] fields = new String[60];
        for (int i = 0; i < 60; i++) {
            int tag = i;
            x = x.then(o -> o.put(tag, 'p' << 8 | 'q')).then(o -> o.subfield2(tag + 1, 'a', 'b'));
            fields[i] = String.format("%03d:", i) + (i < 10 ? "b" : "pq$ab");
            if (i == 0 || i >= 58) {
                String due = Sample.text(Sample.record(java.util.Arrays.copyOf(fields, i + 1)));
                CHECK.due("size with " + (i + 1), x.answer(o -> o.write()), due.length());
                CHECK.due("written with " + (i + 1), x.written().substring(24), due.substring(24));
            }
        }
        CHECK.due("no 61st", x.then(o -> o.put(100, 0x4142)).written(), x.written());
    }

    /** "NONE .. if there is none" */
    private static void noneWithoutARecord() {
        Run[] none = {
            Run.start(), Run.holding(Sample.BOOK), Run.holding(Sample.firstOf(Sample.BOOK, 86)).reading(),
            Run.holding(Sample.with(Sample.BOOK, 79, 'x')).reading(),
            Run.present(Sample.BOOK).adding(Sample.bytes("x".repeat(24))).reading(),
            Run.start().then(x -> x.leader(4, 'x'))
        };
        for (int i = 0; i < none.length; i++) {
            CHECK.due("write " + i, none[i].answer(x -> x.write()), -1);
            CHECK.same("write " + i, none[i], none[i].then(x -> x.write()));
        }
    }

    /** "NONE .. if .. an indicator is 29 to 31": the first or the second one; 28 and 32 are none of these. */
    private static void noneWithAMarkAsIndicator() {
        for (int b = 27; b <= 33; b++) {
            int mark = b;
            boolean none = b >= 29 && b <= 31;
            Run first = Run.blank().then(x -> x.put(10, mark << 8 | 'x'));
            CHECK.due("first " + b, first.answer(x -> x.write()), none ? -1 : 41);
            Run second = Run.blank().then(x -> x.put(10, 'x' << 8 | mark));
            CHECK.due("second " + b, second.answer(x -> x.write()), none ? -1 : 41);
            Run both = Run.blank().then(x -> x.put(999, mark << 8 | mark));
            CHECK.due("both " + b, both.answer(x -> x.write()), none ? -1 : 41);
        }
        for (int b : new int[] {0, 127, 128, 255}) {
            Run x = Run.blank().then(o -> o.put(10, b << 8 | b));
            CHECK.due("both " + b, x.answer(o -> o.write()), 41);
        }
    }

    private static void aMarkAmongOtherFields() {
        for (int mark = 29; mark <= 31; mark++) {
            int ind = 'x' << 8 | mark;
            Run last = Run.present(Sample.BOOK).then(x -> x.put(500, ind));
            CHECK.due("the last field", last.answer(x -> x.write()), -1);
            Run first = Run.blank().then(x -> x.put(500, ind)).then(x -> x.put(500, 0x4142));
            CHECK.due("the first field", first.answer(x -> x.write()), -1);
            Run more = last.then(x -> x.put(500, 0x4142)).then(x -> x.subfield2(4, 'a', 'b'));
            CHECK.due("a field between", more.answer(x -> x.write()), -1);
        }
    }

    /** A control field has no indicators: what was put with it forbids nothing. */
    private static void indicatorsOfControlFields() {
        for (int mark = 29; mark <= 31; mark++) {
            int ind = mark << 8 | mark;
            CHECK.due("tag 9", Run.blank().then(x -> x.put(9, ind)).answer(x -> x.write()), 39);
            CHECK.due("tag 0", Run.blank().then(x -> x.put(0, ind)).answer(x -> x.write()), 39);
            CHECK.due("tag 10", Run.blank().then(x -> x.put(10, ind)).answer(x -> x.write()), -1);
        }
    }

    /** A field that is no more forbids nothing. */
    private static void indicatorsOfEarlierRecords() {
        Run x = Run.holding(Sample.record()).then(o -> o.leader(5, 'a')).then(o -> o.put(100, 30 << 8 | 30));
        CHECK.due("forbidden", x.answer(o -> o.write()), -1);
        CHECK.due("the next record", x.reading().answer(o -> o.write()), 26);
        CHECK.due("with a field", x.reading().then(o -> o.put(100, 0x4142)).answer(o -> o.write()), 41);
    }

    /** "and nothing is written": what was written before stays the latest, and all else stays too. */
    private static void nothingIsWritten() {
        Run written = Run.present(Sample.BOOK).then(x -> x.write());
        Run mark = written.then(x -> x.put(10, 31));
        CHECK.due("an indicator", mark.answer(x -> x.write()), -1);
        CHECK.due("the latest", mark.then(x -> x.write()).octets(), Sample.text(Sample.BOOK));
        CHECK.same("a write with an indicator 31", mark, mark.then(x -> x.write()));
        Run wrong = written.adding(Sample.bytes("x".repeat(24))).reading();
        CHECK.due("no record", wrong.answer(x -> x.write()), -1);
        CHECK.due("the latest", wrong.then(x -> x.write()).octets(), Sample.text(Sample.BOOK));
        CHECK.same("a write without a record", wrong, wrong.then(x -> x.write()));
        Run never = Run.blank().then(x -> x.put(10, 31)).then(x -> x.write());
        CHECK.dueThrow("nothing at all", never, x -> x.octet(0));
    }

    private static void writtenIsRead() {
        Run x = Run.blank().then(o -> o.put(245, '1' << 8 | '0')).then(o -> o.subfield2(1, 'a', 'T'))
                .then(o -> o.put(1, 0)).then(o -> o.subfield2(2, 0, 'i'));
        byte[] written = Sample.bytes(x.written());
        Run again = x.adding(written);
        CHECK.due("read", again.read(), 1);
        CHECK.due("length", again.reading().length(), 2);
        CHECK.due("subfield", again.reading().subfield(1, 0, 'a'), "T");
        CHECK.due("directory", again.reading().directoryPicture(), "245 6 0, 1 2 6, ");
        CHECK.due("written again", again.reading().written(), Sample.text(written));
    }

    /** But for what was written, all stays: the record, the directory and the input. */
    private static void writingChangesNothing() {
        Run once = Run.holding(Sample.BOOK, Sample.BOOK).reading().then(x -> x.put(5, 0)).then(x -> x.write());
        CHECK.same("a second write", once, once.then(x -> x.write()));
        Run before = Run.holding(Sample.BOOK, Sample.BOOK).reading();
        Run after = before.then(x -> x.write());
        CHECK.due("length", after.length(), 3);
        CHECK.due("the directory", after.directoryPicture(), before.directoryPicture());
        CHECK.due("the input", after.read(), 1);
    }
}
