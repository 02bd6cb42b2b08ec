/** Promise 13: octet. */
public final class OctetTest {
    private static final Check CHECK = new Check("OctetTest");
    private static final Run WRITTEN = Run.present(Sample.BOOK).then(x -> x.write());

    public static void main(String[] args) {
        byteI();
        noneSuch();
        nothingWasWritten();
        theLatest();
        theLatestIsShorter();
        untilTheNextTime();
        bytesAsTheyAre();
        askingChangesNothing();
        CHECK.end();
    }

    private static void thrown(String what, Run x, int i) {
        CHECK.dueThrow(what + "octet(" + i + ")", x, o -> o.octet(i));
    }

    /** "Byte i of what was written latest": from 0 on, the first and the last. */
    private static void byteI() {
        for (int i = 0; i < Sample.BOOK.length; i++) {
            int place = i;
            CHECK.due("octet " + i, WRITTEN.answer(x -> x.octet(place)), Sample.BOOK[i]);
        }
    }

    /** "ArrayIndexOutOfBoundsException if there is none such": -1, and one behind the last. */
    private static void noneSuch() {
        int total = Sample.BOOK.length;
        for (int i : new int[] {-1, -2, total, total + 1, 255, 256, 257, 100000, Integer.MIN_VALUE, Integer.MAX_VALUE}) {
            thrown("", WRITTEN, i);
        }
        Run least = Run.blank().then(x -> x.write());
        CHECK.due("the last of 26", least.answer(x -> x.octet(25)), 29);
        thrown("26 bytes, ", least, 26);
    }

    /** Neither in a new object nor with a record that is not written. */
    private static void nothingWasWritten() {
        for (int i = -1; i <= 1; i++) {
            thrown("a new object, ", Run.start(), i);
            thrown("not written, ", Run.present(Sample.BOOK), i);
            thrown("no record, ", Run.start().then(x -> x.write()), i);
            thrown("an indicator, ", Run.blank().then(x -> x.put(10, 30)).then(x -> x.write()), i);
        }
    }

    private static void theLatest() {
        Run x = WRITTEN.then(o -> o.leader(5, 'z')).then(o -> o.subfield2(1, 0, 'z')).then(o -> o.write());
        CHECK.due("byte 5", x.answer(o -> o.octet(5)), 'z');
        CHECK.due("a byte more", x.answer(o -> o.octet(Sample.BOOK.length)), 29);
        thrown("no further one, ", x, Sample.BOOK.length + 1);
    }

    /** No byte of a longer one that was written before is left. */
    private static void theLatestIsShorter() {
        byte[] longer = Sample.record("001:" + "x".repeat(300));
        Run x = Run.holding(longer, Sample.record()).reading().then(o -> o.write());
        CHECK.due("the longer one", x.octets(), Sample.text(longer));
        thrown("the longer one, ", x, longer.length);
        Run shorter = x.reading().then(o -> o.write());
        CHECK.due("the shorter one", shorter.octets(), Sample.text(Sample.record()));
        for (int i : new int[] {26, 27, longer.length - 1, longer.length}) {
            thrown("the shorter one, ", shorter, i);
        }
    }

    /** What is read, built or refused later does not change what was written. */
    private static void untilTheNextTime() {
        String due = Sample.text(Sample.BOOK);
        CHECK.due("leader", WRITTEN.then(x -> x.leader(5, 'z')).octets(), due);
        CHECK.due("put", WRITTEN.then(x -> x.put(5, 0)).octets(), due);
        CHECK.due("subfield2", WRITTEN.then(x -> x.subfield2(1, 0, 'z')).octets(), due);
        CHECK.due("add", WRITTEN.adding(Sample.bytes("x")).octets(), due);
        CHECK.due("read", WRITTEN.adding(Sample.record("001:z")).reading().octets(), due);
        CHECK.due("read 0", WRITTEN.reading().octets(), due);
        Run wrong = WRITTEN.adding(Sample.bytes("x".repeat(24))).reading();
        CHECK.due("read of a wrong one", wrong.octets(), due);
        CHECK.due("write without a record", wrong.then(x -> x.write()).octets(), due);
        CHECK.due("a new record", wrong.then(x -> x.leader(5, 'z')).octets(), due);
        Run mark = WRITTEN.then(x -> x.put(10, 31)).then(x -> x.write());
        CHECK.due("write with an indicator 31", mark.octets(), due);
    }

    /** A byte is -128 .. 127. */
    private static void bytesAsTheyAre() {
        Run x = Run.present("001:\u0000\u007f\u0080\u00ff").then(o -> o.write());
        byte[] due = {0, 127, -128, -1, 30, 29};
        for (int i = 0; i < due.length; i++) {
            int place = 37 + i;
            CHECK.due("octet " + place, x.answer(o -> o.octet(place)), due[i]);
        }
    }

    private static void askingChangesNothing() {
        CHECK.same("octet", WRITTEN, WRITTEN.then(x -> x.octet(5)));
        CHECK.same("an octet that is not there", WRITTEN, WRITTEN.then(x -> Check.told(() -> x.octet(-1))));
        Run fresh = Run.start();
        CHECK.same("an octet of nothing", fresh, fresh.then(x -> Check.told(() -> x.octet(0))));
    }
}
