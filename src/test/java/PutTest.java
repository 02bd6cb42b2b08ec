/** Promise 10: put. */
public final class PutTest {
    private static final Check CHECK = new Check("PutTest");

    public static void main(String[] args) {
        itsNumber();
        atTheEnd();
        theIndicators();
        withoutSubfieldsOrBytes();
        noPresentRecord();
        tagsOutside();
        thereAreSixty();
        sixtyBehindWhatWasRead();
        thereIsNoOtherBound();
        nothingElseChanges();
        CHECK.end();
    }

    private static void due(String what, Run x, int tag, int number) {
        CHECK.due(what + "put(" + tag + ")", x.answer(o -> o.put(tag, 0x4142)), number);
    }

    private static void refused(String what, Run x, int tag) {
        due(what, x, tag, 0);
        CHECK.same(what + "put(" + tag + ")", x, x.then(o -> o.put(tag, 0x4142)));
    }

    /** "A field more ..: its number", from 1 on. */
    private static void itsNumber() {
        Run x = Run.blank();
        int number = 0;
        for (int tag : new int[] {0, 9, 10, 245, 999, 245}) {
            number++;
            due("", x, tag, number);
            x = x.then(o -> o.put(tag, 0));
            CHECK.due("length", x.length(), number);
        }
        CHECK.due("the second 245", x.answer(o -> o.field(245, 1)), 6);
        CHECK.due("control fields are fields", x.answer(o -> o.field(9, 0)), 2);
    }

    /** "at the end of the present record": what it had stays before it. */
    private static void atTheEnd() {
        Run x = Run.present(Sample.BOOK);
        due("behind what was read ", x, 1, 4);
        Run more = x.then(o -> o.put(1, 0));
        CHECK.due("the first of the tag", more.answer(o -> o.field(1, 0)), 1);
        CHECK.due("the one that was put", more.answer(o -> o.field(1, 1)), 4);
        String due = Sample.text(Sample.record("001:id7", "245:10$aTitle$bsub", "245:  $aX", "001:"));
        CHECK.due("written", more.written(), due);
        due("in an empty one ", Run.present(), 1, 1);
    }

    /** "indicators (the second one in the lowest eight bits, the first one above it)" */
    private static void theIndicators() {
        int[][] rows = {
            {0, 0, 0}, {'1' << 8 | '2', '1', '2'}, {1, 0, 1}, {255, 0, 255}, {256, 1, 0}, {257, 1, 1},
            {0xff00, 255, 0}, {0xffff, 255, 255}, {0x10000, 0, 0}, {0x10001, 0, 1}, {0x12345678, 0x56, 0x78},
            {-1, 255, 255}, {-256, 255, 0}, {Integer.MIN_VALUE, 0, 0}, {Integer.MAX_VALUE, 255, 255},
            {28 << 8 | 32, 28, 32}, {29 << 8 | 31, 29, 31}, {30 << 8 | 30, 30, 30}
        };
        for (int[] row : rows) {
            Run x = Run.blank().then(o -> o.put(100, row[0]));
            CHECK.due("first of " + row[0], x.answer(o -> o.indicator(1, 0)), row[1]);
            CHECK.due("second of " + row[0], x.answer(o -> o.indicator(1, 1)), row[2]);
        }
        Run two = Run.blank().then(o -> o.put(100, 0x4142)).then(o -> o.put(100, 0x4344));
        CHECK.due("the first field keeps its own", two.answer(o -> o.indicator(1, 0)), 0x41);
        CHECK.due("the second field's", two.answer(o -> o.indicator(2, 0)), 0x43);
    }

    /** "without subfields or bytes": whatever an earlier record's field of that number had. */
    private static void withoutSubfieldsOrBytes() {
        Run x = Run.holding(Sample.BOOK, Sample.record()).reading().reading()
                .then(o -> o.put(1, 0)).then(o -> o.put(245, '3' << 8 | '4')).then(o -> o.put(2, 0));
        CHECK.due("a control field", x.answer(o -> o.subfield(1, 0, 0, 0)), -1);
        CHECK.due("another one", x.answer(o -> o.subfield(2, 0, 'a', 0)), -1);
        CHECK.due("written", x.written(), Sample.text(Sample.record("001:", "245:34", "002:")));
        Run more = x.then(o -> o.subfield2(2, 'b', 'x'));
        CHECK.due("its first subfield", more.subfield(2, 0, 'b'), "x");
    }

    /** "0, and nothing happens, if there is no present record" */
    private static void noPresentRecord() {
        refused("a new object, ", Run.start(), 1);
        refused("not read, ", Run.holding(Sample.BOOK), 1);
        refused("behind a wrong one, ", Run.present(Sample.BOOK).adding(Sample.bytes("x".repeat(24))).reading(), 1);
    }

    /** "0, and nothing happens, if .. the tag is not 0 .. 999": -1, 0, 999, 1,000. */
    private static void tagsOutside() {
        Run x = Run.present(Sample.BOOK).then(o -> o.write());
        for (int tag : new int[] {-1, -2, 1000, 1001, 65536, 1024 + 5, Integer.MIN_VALUE, Integer.MAX_VALUE}) {
            refused("", x, tag);
        }
        for (int tag : new int[] {0, 1, 9, 10, 998, 999}) {
            due("", x, tag, 4);
            CHECK.due("field " + tag, Run.blank().then(o -> o.put(tag, 0)).answer(o -> o.field(tag, 0)), 1);
        }
    }

    /** "0, and nothing happens, if .. there are 60": the 59th, the 60th, no 61st. */
    private static void thereAreSixty() {
        Run x = Run.blank();
        for (int n = 1; n <= 60; n++) {
            due(n + ": ", x, n, n);
            int tag = n;
            x = x.then(o -> o.put(tag, 0x4142));
        }
        refused("the 61st, ", x, 61);
        refused("the 61st, ", x, 1);
        refused("the 62nd, ", x.then(o -> o.put(61, 0)), 62);
        CHECK.due("length", x.length(), 60);
        CHECK.due("the last", x.answer(o -> o.field(60, 0)), 60);
        Run later = x.adding(Sample.record()).reading();
        due("the next record has room, ", later, 61, 1);
    }

    private static void sixtyBehindWhatWasRead() {
        Run x = Run.present(Sample.shared(37, "001", "a"));
        for (int n = 38; n <= 60; n++) {
            due(n + ": ", x, 100, n);
            x = x.then(o -> o.put(100, 0));
        }
        due("the 61st, ", x, 100, 0);
        CHECK.due("length", x.then(o -> o.put(100, 0)).length(), 60);
        Run full = Run.beyond().adding(Sample.shared(60, "001", "a")).reading();
        due("60 that were read, ", full, 100, 0);
        Run almost = Run.beyond().adding(Sample.shared(59, "001", "a")).reading();
        due("59 that were read, ", almost, 100, 60);
    }

    /** The bound on bytes is subfield2's alone. */
    private static void thereIsNoOtherBound() {
        Run x = Run.present(Sample.shared(20, "001", "x".repeat(100)));
        due("beyond 1,200 bytes ", x, 100, 21);
        int total = 24 + 21 * 12 + 1 + 20 * 101 + 3 + 1;
        CHECK.due("write", x.then(o -> o.put(100, 0)).answer(o -> o.write()), total);
    }

    /** The input, the directory and what was written stay. */
    private static void nothingElseChanges() {
        Run before = Run.holding(Sample.BOOK, Sample.BOOK).reading().then(x -> x.write());
        Run after = before.then(x -> x.put(5, 0));
        CHECK.due("the directory", after.directoryPicture(), before.directoryPicture());
        CHECK.due("latest", after.octets(), Sample.text(Sample.BOOK));
        CHECK.due("the input", after.read(), 1);
    }
}
