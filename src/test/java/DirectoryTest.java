/** Promise 7: directory. */
public final class DirectoryTest {
    private static final Check CHECK = new Check("DirectoryTest");
    private static final Run BOOK = Run.present(Sample.BOOK);
    private static final String BOOK_ROWS = "1 4 0, 245 15 4, 245 6 19, ";

    public static void main(String[] args) {
        whatZeroToTwo();
        anotherWhat();
        noRow();
        theRowIsLookedAtFirst();
        noneBeforeTheFirstRecord();
        theLatest();
        ofARecordThatWasNotWrong();
        whatWasBuiltIsNoRow();
        theLargestNumbers();
        theSixtiethRow();
        askingChangesNothing();
        CHECK.end();
    }

    private static void rows(String what, Run x, String due) {
        CHECK.due(what, x.directoryPicture(), due);
    }

    private static void thrown(Run x, int i, int what) {
        CHECK.dueThrow("directory(" + i + ", " + what + ")", x, o -> o.directory(i, what));
    }

    /** "Of row i of the directory .., what 0: the tag, 1: the length, 2: the start" */
    private static void whatZeroToTwo() {
        rows("the sample", BOOK, BOOK_ROWS);
        CHECK.due("tag", BOOK.answer(x -> x.directory(2, 0)), 245);
        CHECK.due("length", BOOK.answer(x -> x.directory(2, 1)), 6);
        CHECK.due("start", BOOK.answer(x -> x.directory(2, 2)), 19);
        String other = Sample.row("002", 2, 9) + Sample.row("999", 3, 2) + Sample.row("000", 1, 4);
        rows("as they stand", Run.present(Sample.framed(other, "xx12^yyyya^")), "2 2 9, 999 3 2, 0 1 4, ");
    }

    /** "NONE for another what": -1 and 3. */
    private static void anotherWhat() {
        for (int what : new int[] {-1, -2, 3, 4, 256, Integer.MIN_VALUE, Integer.MAX_VALUE}) {
            for (int i = 0; i < 3; i++) {
                int row = i;
                CHECK.due("what " + what + " of " + i, BOOK.answer(x -> x.directory(row, what)), -1);
            }
        }
    }

    /** "ArrayIndexOutOfBoundsException if there is no row i": -1, and one behind the last. */
    private static void noRow() {
        int[] none = {-1, -2, 3, 4, 59, 60, 61, 256, Integer.MIN_VALUE, Integer.MAX_VALUE, 1431655766};
        for (int i : none) {
            for (int what = 0; what < 3; what++) {
                thrown(BOOK, i, what);
            }
        }
    }

    /** "(looked at first ..)": before what. */
    private static void theRowIsLookedAtFirst() {
        for (int what : new int[] {-1, 3, Integer.MIN_VALUE, Integer.MAX_VALUE}) {
            thrown(BOOK, -1, what);
            thrown(BOOK, 3, what);
            thrown(Run.start(), 0, what);
        }
    }

    /** "there is none before the first record": nor with bytes that are not read, or a record that was built. */
    private static void noneBeforeTheFirstRecord() {
        thrown(Run.start(), 0, 0);
        thrown(Run.start(), -1, 0);
        thrown(Run.holding(Sample.BOOK), 0, 0);
        thrown(Run.holding(Sample.firstOf(Sample.BOOK, 86)).reading(), 0, 0);
        thrown(Run.blank().then(x -> x.put(1, 0)).then(x -> x.write()), 0, 0);
    }

    /** "the directory that was read latest": none of an earlier one's rows. */
    private static void theLatest() {
        Run x = Run.holding(Sample.BOOK, Sample.record("005:ab"), Sample.record()).reading();
        rows("the first", x, BOOK_ROWS);
        rows("the second", x.reading(), "5 3 0, ");
        thrown(x.reading(), 1, 0);
        rows("a record without rows", x.reading().reading(), "");
        thrown(x.reading().reading(), 0, 0);
        thrown(x.reading().reading(), 0, 7);
        rows("a longer one again", x.reading().reading().adding(Sample.BOOK).reading(), BOOK_ROWS);
    }

    /** "(of a record that was not wrong)": a wrong one's rows are never told, nor do they take others away. */
    private static void ofARecordThatWasNotWrong() {
        for (int place : new int[] {0, 10, 48, 59, 79, 85, 86}) {
            byte[] wrong = Sample.with(Sample.BOOK, place, 1);
            thrown(Run.holding(wrong).reading(), 0, 0);
            Run x = Run.present("005:ab").adding(wrong);
            rows("behind wrong at " + place, x.reading(), "5 3 0, ");
            rows("a new record behind it", x.reading().then(o -> o.leader(5, 'a')), "5 3 0, ");
        }
        rows("behind one that is not whole", BOOK.adding(Sample.bytes("00026")).reading(), BOOK_ROWS);
    }

    /** What is changed, put or written later is no row of what was read. */
    private static void whatWasBuiltIsNoRow() {
        Run x = BOOK.then(o -> o.put(700, 0)).then(o -> o.subfield2(1, 0, 'x')).then(o -> o.write());
        rows("the rows stay", x, BOOK_ROWS);
        thrown(x, 3, 0);
    }

    /** Tag 999, the longest field and the largest start that 512 calls can show. */
    private static void theLargestNumbers() {
        rows("tag and length", Run.present("999:12$a" + "x".repeat(460)), "999 465 0, ");
        String row = Sample.row("999", 1 + 2, 450);
        rows("start", Run.present(Sample.framed(row, "x".repeat(450) + "12^")), "999 3 450, ");
    }

    /** More rows than 512 calls can show; this program keeps them. */
    private static void theSixtiethRow() {
        Run x = Run.beyond().adding(Sample.shared(60, "001", "y")).reading();
        CHECK.due("tag of row 59", x.answer(o -> o.directory(59, 0)), 1);
        CHECK.due("length of row 59", x.answer(o -> o.directory(59, 1)), 2);
        CHECK.due("start of row 59", x.answer(o -> o.directory(59, 2)), 0);
        thrown(x, 60, 0);
        Run forty = Run.present(Sample.shared(39, "002", "y"));
        CHECK.due("row 38", forty.answer(o -> o.directory(38, 1)), 2);
        thrown(forty, 39, 1);
    }

    private static void askingChangesNothing() {
        CHECK.same("directory", BOOK, BOOK.then(x -> x.directory(1, 1)).then(x -> x.directory(1, 9)));
        CHECK.same("a row that is not there", BOOK, BOOK.then(x -> Check.told(() -> x.directory(3, 0))));
        Run fresh = Run.start();
        CHECK.same("a row before the first record", fresh, fresh.then(x -> Check.told(() -> x.directory(0, 0))));
    }
}
