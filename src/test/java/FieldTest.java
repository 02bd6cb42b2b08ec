/** Promise 4: field. */
public final class FieldTest {
    private static final Check CHECK = new Check("FieldTest");
    private static final Run SIX = Run.present("245:12", "000:", "245:34", "999:56", "000:a", "245:78");

    public static void main(String[] args) {
        theIthInOrder();
        iOutside();
        tagsBesideIt();
        fromOneOn();
        noneOfNoRecord();
        whatWasPut();
        ofThePresentRecordAlone();
        askingChangesNothing();
        CHECK.end();
    }

    private static void due(Run x, int tag, int i, int number) {
        CHECK.due("field(" + tag + ", " + i + ")", x.answer(o -> o.field(tag, i)), number);
    }

    /** "Of the present record's fields with a tag, in order, the i-th, from 0 on: its number among all" */
    private static void theIthInOrder() {
        due(SIX, 245, 0, 1);
        due(SIX, 245, 1, 3);
        due(SIX, 245, 2, 6);
        due(SIX, 0, 0, 2);
        due(SIX, 0, 1, 5);
        due(SIX, 999, 0, 4);
    }

    /** "0 if there is none": i one below the first and one behind the last. */
    private static void iOutside() {
        for (int i : new int[] {-1, -2, 3, 4, Integer.MIN_VALUE, Integer.MAX_VALUE}) {
            due(SIX, 245, i, 0);
        }
        due(SIX, 0, -1, 0);
        due(SIX, 0, 2, 0);
        due(SIX, 999, -1, 0);
        due(SIX, 999, 1, 0);
    }

    /** "0 if there is none" with the tag; one below, one above, and the ends of 0 .. 999. */
    private static void tagsBesideIt() {
        int[] none = {244, 246, 1, 998, -1, 1000, 1245, 245 + 256, 245 - 256, -245, 65536 + 245,
            Integer.MAX_VALUE, Integer.MIN_VALUE};
        for (int tag : none) {
            due(SIX, tag, 0, 0);
        }
        Run ends = Run.present("000:a", "009:b", "010:12", "999:34");
        due(ends, 0, 0, 1);
        due(ends, 9, 0, 2);
        due(ends, 10, 0, 3);
        due(ends, 999, 0, 4);
        due(ends, 8, 0, 0);
        due(ends, 11, 0, 0);
    }

    /** "from 1 on": the number of the only one, and of the sixtieth. */
    private static void fromOneOn() {
        due(Run.present("500:12"), 500, 0, 1);
        Run x = Run.blank();
        for (int n = 1; n <= 60; n++) {
            x = x.then(o -> o.put(7, 0));
        }
        due(x, 7, 0, 1);
        due(x, 7, 58, 59);
        due(x, 7, 59, 60);
        due(x, 7, 60, 0);
        due(x.then(o -> o.put(7, 0)), 7, 60, 0);
    }

    private static void noneOfNoRecord() {
        due(Run.start(), 0, 0, 0);
        due(Run.holding(Sample.BOOK), 245, 0, 0);
        due(Run.present(), 0, 0, 0);
        due(Run.blank(), 0, 0, 0);
        due(Run.present(Sample.BOOK).adding(Sample.bytes("x".repeat(24))).reading(), 245, 0, 0);
    }

    private static void whatWasPut() {
        Run x = SIX.then(o -> o.put(245, 0)).then(o -> o.put(50, 0));
        due(x, 245, 2, 6);
        due(x, 245, 3, 7);
        due(x, 50, 0, 8);
        due(x, 50, 1, 0);
    }

    private static void ofThePresentRecordAlone() {
        Run x = Run.holding(Sample.BOOK, Sample.record("245:12")).reading().reading();
        due(x, 245, 0, 1);
        due(x, 245, 1, 0);
        due(x, 1, 0, 0);
    }

    private static void askingChangesNothing() {
        CHECK.same("field", SIX, SIX.then(x -> x.field(245, 1)).then(x -> x.field(1000, -1)));
    }
}
