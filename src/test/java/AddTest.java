/** Promise 2: add. */
public final class AddTest {
    private static final Check CHECK = new Check("AddTest");
    private static final byte[] SMALL = Sample.record();

    public static void main(String[] args) {
        eachByteComesBehindTheOthers();
        behindWhatWasRead();
        behindWhatWasWrong();
        anyByteIsKept();
        nothingButTheInputChanges();
        theInputHas1500();
        whatIsLostLeavesTheOthers();
        readingMakesNoRoom();
        CHECK.end();
    }

    /** "A byte comes behind the input's": all in the order in which they came, none twice. */
    private static void eachByteComesBehindTheOthers() {
        for (int i = 0; i < Sample.BOOK.length; i++) {
            CHECK.due("read of " + i + " bytes", Run.holding(Sample.firstOf(Sample.BOOK, i)).read(), 0);
        }
        CHECK.due("read of the whole", Run.holding(Sample.BOOK).read(), 1);
        CHECK.due("the bytes", Run.present(Sample.BOOK).written(), Sample.text(Sample.BOOK));
    }

    private static void behindWhatWasRead() {
        Run x = Run.present(Sample.BOOK).adding(Sample.record("005:z"));
        CHECK.due("length of the first", x.length(), 3);
        CHECK.due("read of the second", x.read(), 1);
        CHECK.due("length of the second", x.reading().length(), 1);
        CHECK.due("its byte", x.reading().answer(o -> o.subfield(1, 0, 0, 0)), 'z');
        Run apart = Run.holding(Sample.firstOf(Sample.BOOK, 40)).reading().adding(Sample.behindFirst(Sample.BOOK, 40));
        CHECK.due("a record that came in two parts", apart.read(), 1);
    }

    private static void behindWhatWasWrong() {
        Run x = Run.holding(Sample.with(Sample.BOOK, 0, 'x')).reading().adding(Sample.record("005:z"));
        CHECK.due("read", x.read(), 1);
        CHECK.due("its byte", x.reading().answer(o -> o.subfield(1, 0, 0, 0)), 'z');
    }

    /** A byte of -128 .. 127 is one of 0 .. 255. */
    private static void anyByteIsKept() {
        byte[] record = Sample.record("003:?");
        for (int b = -128; b <= 127; b++) {
            int whole = b & 255;
            if (whole >= 29 && whole <= 31) {
                continue;
            }
            Run x = Run.present(Sample.with(record, 37, b));
            CHECK.due("byte " + b, x.answer(o -> o.subfield(1, 0, 0, 0)), whole);
            CHECK.due("byte " + b + " written", x.then(o -> o.write()).answer(o -> o.octet(37)), b);
        }
    }

    /** The present record, the directory and what was written stay: only the input grows. */
    private static void nothingButTheInputChanges() {
        Run before = Run.present(Sample.BOOK).then(x -> x.write()).then(x -> x.put(100, 0x4142));
        Run after = before.adding(Sample.bytes("x"));
        CHECK.due("length", after.length(), 4);
        CHECK.due("directory", after.directoryPicture(), before.directoryPicture());
        CHECK.due("latest", after.octets(), before.octets());
        CHECK.due("written", after.written(), before.written());
    }

    private static byte[] filler(int size) {
        return Sample.record("001:" + "f".repeat(size - 26 - 12 - 1));
    }

    /** "if it has 1,500 it is lost": the 1,499th and the 1,500th byte come in, the 1,501st does not. */
    private static void theInputHas1500() {
        for (int total = 1498; total <= 1502; total++) {
            byte[] first = filler(total - SMALL.length);
            CHECK.due("the first of " + total, first.length + SMALL.length, total);
            Run x = Run.beyond().adding(first, SMALL);
            CHECK.due("first of " + total + " bytes", x.read(), 1);
            CHECK.due("last of " + total + " bytes", x.reading().read(), total <= 1500 ? 1 : 0);
        }
        CHECK.due("one of 1,499", Run.beyond().adding(filler(1499)).read(), 1);
        CHECK.due("one of 1,500", Run.beyond().adding(filler(1500)).read(), 1);
        CHECK.due("one of 1,501", Run.beyond().adding(filler(1501)).read(), 0);
    }

    /** "it is lost": the other bytes and the place stay as they are, however often it comes. */
    private static void whatIsLostLeavesTheOthers() {
        Run full = Run.beyond().adding(filler(1474), SMALL);
        Run more = full.adding(Sample.bytes("x"));
        CHECK.due("the first", more.read(), 1);
        CHECK.due("the second", more.reading().read(), 1);
        CHECK.due("nothing else", more.reading().reading().read(), 0);
        Run muchMore = full.adding(Sample.bytes("x".repeat(1600)));
        CHECK.due("the first still", muchMore.read(), 1);
        CHECK.due("the second still", muchMore.reading().read(), 1);
        CHECK.due("nothing else still", muchMore.reading().reading().read(), 0);
        CHECK.due("its bytes", muchMore.reading().reading().written(), Sample.text(SMALL));
        CHECK.same("a lost byte", full, full.adding(Sample.bytes("0")));
        Run partly = full.reading().then(x -> x.put(100, 0x4142));
        CHECK.same("a byte lost behind a record", partly, partly.adding(Sample.bytes("0")));
    }

    /** The input has 1,500 bytes whether they were read, were wrong, or not. */
    private static void readingMakesNoRoom() {
        Run full = Run.beyond().adding(filler(1474), SMALL).reading().reading();
        CHECK.due("what comes later is lost", full.adding(SMALL).read(), 0);
        Run almost = Run.beyond().adding(filler(1473)).reading().adding(SMALL);
        CHECK.due("what just fits", almost.read(), 1);
        Run wrong = Run.beyond().adding(Sample.bytes("x".repeat(1474))).reading();
        CHECK.due("what fits behind a wrong one", wrong.adding(SMALL).read(), 1);
        Run wrongAndFull = Run.beyond().adding(Sample.bytes("x".repeat(1475))).reading();
        CHECK.due("what does not fit behind a wrong one", wrongAndFull.adding(SMALL).read(), 0);
    }
}
