/** Promise 3: read. What is wrong, thing by thing, is WrongTest's. */
public final class ReadTest {
    private static final Check CHECK = new Check("ReadTest");
    private static final byte[] NEXT = Sample.record("009:n");

    public static void main(String[] args) {
        itIsThePresentOneThen();
        thePlaceGoesOnBehindIt();
        lessThan24();
        lessThan24WithARecord();
        lessThanL();
        lessThanLWithARecord();
        aWrongOneThatIsNotWhole();
        minusOneLessThePlace();
        noPresentRecordThen();
        behindTheRecord();
        behindTheWholeInput();
        whatWasReadAndWrittenStays();
        the512thCall();
        CHECK.end();
    }

    /** BOOK with a byte that is wrong at that place. */
    private static byte[] spoilt(int place) {
        return Sample.with(Sample.BOOK, place, place == Sample.BOOK.length - 1 ? 'x' : 29);
    }

    /** "The next record is read: 1, it is the present one then": instead of whatever there was. */
    private static void itIsThePresentOneThen() {
        Run x = Run.holding(Sample.BOOK);
        CHECK.due("not before", x.length(), -1);
        CHECK.due("read", x.read(), 1);
        CHECK.due("length", x.reading().length(), 3);
        CHECK.due("written", x.reading().written(), Sample.text(Sample.BOOK));
        Run second = Run.holding(Sample.BOOK, NEXT).reading().reading();
        CHECK.due("the second one", second.written(), Sample.text(NEXT));
        Run built = Run.blank().then(o -> o.put(500, 0)).then(o -> o.subfield2(1, 'a', 'b')).adding(NEXT);
        CHECK.due("read over a new one", built.read(), 1);
        CHECK.due("instead of the new one", built.reading().written(), Sample.text(NEXT));
        Run changed = Run.holding(Sample.BOOK, Sample.BOOK).reading().then(o -> o.leader(5, 'z'))
                .then(o -> o.put(500, 0)).then(o -> o.subfield2(2, 'z', 'z')).reading();
        CHECK.due("instead of a changed one", changed.written(), Sample.text(Sample.BOOK));
    }

    /** "and the place goes on behind it": to the very next byte. */
    private static void thePlaceGoesOnBehindIt() {
        Run x = Run.holding(Sample.BOOK, Sample.record(), Sample.record("100:12$ab"), NEXT);
        int[] fields = {3, 0, 1, 1};
        for (int count : fields) {
            CHECK.due("read", x.read(), 1);
            x = x.reading();
            CHECK.due("length", x.length(), count);
        }
        CHECK.due("none is left", x.read(), 0);
        CHECK.due("still the last", x.reading().length(), 1);
        Run gap = Run.holding(Sample.BOOK, Sample.bytes("x"), NEXT).reading();
        CHECK.due("a byte between", gap.read(), -1);
        Run less = Run.holding(Sample.BOOK, Sample.behindFirst(NEXT, 1), Sample.bytes("x")).reading();
        CHECK.due("a byte less", less.read(), -5);
    }

    /** "0, and nothing happens, if less than 24 bytes .. are left": 23, 24 and 25, even of a wrong one. */
    private static void lessThan24() {
        byte[] wrong = Sample.with(Sample.record(), 0, 'x');
        for (int count : new int[] {0, 1, 4, 5, 22, 23}) {
            Run x = Run.holding(Sample.firstOf(wrong, count));
            CHECK.due(count + " bytes", x.read(), 0);
            CHECK.same("a read of " + count + " bytes", x, x.reading());
        }
        CHECK.due("24 bytes", Run.holding(Sample.firstOf(wrong, 24)).read(), -1);
        CHECK.due("25 bytes", Run.holding(Sample.firstOf(wrong, 25)).read(), -1);
        byte[] right = Sample.record();
        for (int count = 23; count <= 25; count++) {
            Run x = Run.holding(Sample.firstOf(right, count));
            CHECK.due(count + " bytes of a right one", x.read(), 0);
            CHECK.same("a read of " + count + " bytes of a right one", x, x.reading());
        }
        CHECK.due("26 bytes of a right one", Run.holding(right).read(), 1);
    }

    /** "are left": behind the place; the present record stays. */
    private static void lessThan24WithARecord() {
        Run x = Run.present(Sample.BOOK).then(o -> o.write()).then(o -> o.put(100, 0x4142));
        for (int count : new int[] {0, 1, 23}) {
            Run more = x.adding(Sample.bytes("x".repeat(count)));
            CHECK.due(count + " left", more.read(), 0);
            CHECK.same("a read of " + count + " left", more, more.reading());
        }
        CHECK.due("24 left", x.adding(Sample.bytes("x".repeat(24))).read(), -1);
    }

    /** "0, and nothing happens, if .. less than L, are left": L - 1, L and L + 1. */
    private static void lessThanL() {
        int total = Sample.BOOK.length;
        for (int count : new int[] {24, 25, 26, 60, 61, total - 2, total - 1}) {
            Run x = Run.holding(Sample.firstOf(Sample.BOOK, count));
            CHECK.due(count + " bytes", x.read(), 0);
            CHECK.same("a read of " + count + " bytes", x, x.reading());
        }
        CHECK.due("L bytes", Run.holding(Sample.BOOK).read(), 1);
        CHECK.due("L + 1 bytes", Run.holding(Sample.BOOK, Sample.bytes("x")).read(), 1);
        Run far = Run.holding(Sample.with(Sample.BOOK, 0, "99999"));
        CHECK.due("L is 99,999", far.read(), 0);
        CHECK.same("a read of L 99,999", far, far.reading());
    }

    private static void lessThanLWithARecord() {
        Run x = Run.present(Sample.BOOK).then(o -> o.write()).then(o -> o.put(100, 0x4142));
        Run more = x.adding(Sample.firstOf(NEXT, NEXT.length - 1));
        CHECK.due("L - 1 left", more.read(), 0);
        CHECK.same("a read of L - 1 left", more, more.reading());
        Run whole = more.reading().adding(Sample.behindFirst(NEXT, NEXT.length - 1));
        CHECK.due("L left", whole.read(), 1);
        CHECK.due("it is the present one", whole.reading().length(), 1);
    }

    /** "[as many as L bytes must be there now]": what is wrong behind that is not told before. */
    private static void aWrongOneThatIsNotWhole() {
        for (int place : new int[] {10, 11, 12, 16, 20, 21, 24, 35, 60, 61, 64}) {
            byte[] wrong = spoilt(place);
            Run x = Run.holding(Sample.firstOf(wrong, wrong.length - 1));
            CHECK.due("wrong at " + place + ", not whole", x.read(), 0);
            CHECK.same("a read of a wrong one that is not whole", x, x.reading());
            CHECK.due("wrong at " + place + ", whole", Run.holding(wrong).read(), -1 - place);
        }
        for (int place = 0; place < 5; place++) {
            byte[] wrong = Sample.firstOf(Sample.with(Sample.BOOK, place, 'x'), 24);
            CHECK.due("wrong at " + place + ", not whole", Run.holding(wrong).read(), -1 - place);
        }
        byte[] low = Sample.firstOf(Sample.with(Sample.BOOK, 0, "00025"), 24);
        CHECK.due("L below 26, not whole", Run.holding(low).read(), -1);
    }

    /** "If it is WRONG: -1 less the place of that": from the record's first byte on, not the input's. */
    private static void minusOneLessThePlace() {
        for (int place : new int[] {0, 1, 4, 10, 21, 16, 60, 86, 24, 47, 61, 79, 85}) {
            byte[] wrong = spoilt(place);
            CHECK.due("wrong at " + place, Run.holding(wrong).read(), -1 - place);
            CHECK.due("wrong at " + place + " of a second one", Run.present(Sample.BOOK).adding(wrong).read(), -1 - place);
        }
    }

    /** "then there is no present record": whichever there was, read or built. */
    private static void noPresentRecordThen() {
        for (int place : new int[] {0, 10, 79, 86}) {
            byte[] wrong = spoilt(place);
            noneIsThere("read, then wrong at " + place, Run.present(Sample.BOOK).adding(wrong).reading());
            noneIsThere("built, then wrong at " + place,
                    Run.blank().then(x -> x.put(245, 0x4142)).adding(wrong).reading());
        }
    }

    private static void noneIsThere(String what, Run x) {
        CHECK.due(what + ": length", x.length(), -1);
        CHECK.due(what + ": field", x.answer(o -> o.field(245, 0)), 0);
        for (int n = 1; n <= 3; n++) {
            int number = n;
            CHECK.due(what + ": indicator", x.answer(o -> o.indicator(number, 0)), -1);
            CHECK.due(what + ": subfield", x.answer(o -> o.subfield(number, 0, 'a', 0)), -1);
        }
        CHECK.due(what + ": put", x.answer(o -> o.put(1, 0)), 0);
        CHECK.due(what + ": leader", x.answer(o -> o.leader(0, 0) ? 1 : 0), 0);
        CHECK.due(what + ": write", x.answer(o -> o.write()), -1);
    }

    /** "and the place goes on behind the record": L bytes on. */
    private static void behindTheRecord() {
        for (int place : new int[] {10, 11, 20, 21, 12, 13, 14, 15, 16, 60, 24, 27, 35, 48, 61, 64, 65, 67, 85}) {
            Run x = Run.holding(spoilt(place), NEXT).reading();
            CHECK.due("behind wrong at " + place, x.read(), 1);
            CHECK.due("its field, behind wrong at " + place, x.reading().answer(o -> o.field(9, 0)), 1);
            Run alone = Run.holding(spoilt(place)).reading();
            CHECK.due("nothing behind wrong at " + place, alone.read(), 0);
        }
        Run x = Run.holding(Sample.with(Sample.BOOK, 12, "00062"), NEXT).reading();
        CHECK.due("behind a wrong BASE", x.read(), 1);
        Run two = Run.holding(Sample.with(NEXT, 11, 'x'), Sample.with(NEXT, 38, 'x'), NEXT).reading();
        CHECK.due("two wrong ones", two.read(), -39);
        CHECK.due("and a right one", two.reading().read(), 1);
    }

    /** "or, if one of 0 to 4, L or L - 1 is wrong, behind the whole input": to what comes later. */
    private static void behindTheWholeInput() {
        for (int place : new int[] {0, 1, 2, 3, 4, 86}) {
            lostWithTheInput("wrong at " + place, spoilt(place), -1 - place);
        }
        lostWithTheInput("L is 25", Sample.with(Sample.BOOK, 0, "00025"), -1);
        lostWithTheInput("L is 0", Sample.with(Sample.BOOK, 0, "00000"), -1);
        lostWithTheInput("an empty one's L - 1", Sample.with(Sample.record(), 25, 'x'), -26);
    }

    private static void lostWithTheInput(String what, byte[] wrong, int due) {
        Run x = Run.holding(wrong, NEXT, NEXT);
        CHECK.due(what, x.read(), due);
        CHECK.due(what + ": nothing is left", x.reading().read(), 0);
        Run later = x.reading().adding(Sample.record("008:m"));
        CHECK.due(what + ": what comes later", later.read(), 1);
        CHECK.due(what + ": its field", later.reading().answer(o -> o.field(8, 0)), 1);
        CHECK.due(what + ": a byte less", x.reading().adding(Sample.firstOf(NEXT, NEXT.length - 1)).read(), 0);
    }

    /** A wrong one takes away the present record alone, not the directory or what was written. */
    private static void whatWasReadAndWrittenStays() {
        Run before = Run.present(Sample.BOOK).then(x -> x.write());
        for (int place : new int[] {0, 10, 48, 79, 86}) {
            Run after = before.adding(spoilt(place)).reading();
            CHECK.due("the directory", after.directoryPicture(), before.directoryPicture());
            CHECK.due("what was written", after.octets(), Sample.text(Sample.BOOK));
        }
    }

    /** "An object is used for at most 512 calls": the 512th is still answered as any other. */
    private static void the512thCall() {
        byte[] longest = Sample.record("001:" + "x".repeat(511 - 39));
        CHECK.due("the bytes", longest.length, 511);
        CHECK.due("the 512th call", Run.holding(longest).read(), 1);
        byte[] shorter = Sample.record("001:" + "x".repeat(510 - 39));
        CHECK.due("the 511th call", Run.holding(shorter).read(), 1);
        CHECK.due("and the 512th", Run.present(shorter).answer(x -> x.subfield(1, 0, 0, 510 - 39 - 1)), 'x');
        CHECK.due("or that", Run.present(shorter).answer(x -> x.write()), 510);
    }
}
