/** Promise 5: indicator. */
public final class IndicatorTest {
    private static final Check CHECK = new Check("IndicatorTest");
    private static final Run FOUR = Run.present("009:ab", "010:17$ac", "999:\u00ff\u0080", "245:  $aX");

    public static void main(String[] args) {
        zeroOrOne();
        noSuchIndicator();
        noSuchField();
        ofAControlField();
        whatWasPut();
        ofNoRecord();
        ofThePresentRecordAlone();
        askingChangesNothing();
        CHECK.end();
    }

    private static void due(Run x, int field, int which, int b) {
        CHECK.due("indicator(" + field + ", " + which + ")", x.answer(o -> o.indicator(field, which)), b);
    }

    /** "Indicator 0 or 1 of a field (by its number)" */
    private static void zeroOrOne() {
        due(FOUR, 2, 0, '1');
        due(FOUR, 2, 1, '7');
        due(FOUR, 3, 0, 255);
        due(FOUR, 3, 1, 128);
        due(FOUR, 4, 0, ' ');
        due(FOUR, 4, 1, ' ');
        due(Run.present("500:\u0000\u007f"), 1, 0, 0);
        due(Run.present("500:\u0000\u007f"), 1, 1, 127);
    }

    /** "NONE if .. no such indicator": -1 and 2. */
    private static void noSuchIndicator() {
        for (int which : new int[] {-1, 2, 3, 256, 257, Integer.MIN_VALUE, Integer.MAX_VALUE}) {
            due(FOUR, 2, which, -1);
            due(FOUR, 1, which, -1);
        }
    }

    /** "NONE if there is no such field": 0, and one behind the last. */
    private static void noSuchField() {
        for (int which = 0; which < 2; which++) {
            for (int field : new int[] {0, -1, -2, 5, 6, 60, 61, 258, Integer.MIN_VALUE, Integer.MAX_VALUE}) {
                due(FOUR, field, which, -1);
            }
        }
        due(FOUR, 0, 2, -1);
        Run sixty = Run.blank();
        for (int n = 1; n <= 60; n++) {
            sixty = sixty.then(x -> x.put(10, 'p' << 8 | 'q'));
        }
        due(sixty, 1, 0, 'p');
        due(sixty, 60, 1, 'q');
        due(sixty, 61, 0, -1);
    }

    /** "NONE if .. it is a control field": tags 0 and 9, not 10. */
    private static void ofAControlField() {
        Run x = Run.present("000:12", "009:34", "010:56");
        for (int which = 0; which < 2; which++) {
            due(x, 1, which, -1);
            due(x, 2, which, -1);
            due(x, 3, which, '5' + which);
        }
        due(Run.present("009:"), 1, 0, -1);
    }

    private static void whatWasPut() {
        Run x = FOUR.then(o -> o.put(10, 0x1234)).then(o -> o.put(9, 0x1234));
        due(x, 5, 0, 0x12);
        due(x, 5, 1, 0x34);
        due(x, 6, 0, -1);
        due(x, 6, 1, -1);
        due(x, 2, 0, '1');
    }

    private static void ofNoRecord() {
        due(Run.start(), 1, 0, -1);
        due(Run.blank(), 1, 0, -1);
        due(Run.present(), 1, 1, -1);
        due(Run.present(Sample.BOOK).adding(Sample.bytes("x".repeat(24))).reading(), 2, 0, -1);
    }

    private static void ofThePresentRecordAlone() {
        Run x = Run.holding(Sample.BOOK, Sample.record("245:89")).reading().reading();
        due(x, 1, 0, '8');
        due(x, 2, 0, -1);
        Run control = Run.holding(Sample.record("245:89"), Sample.record("001:ab")).reading().reading();
        due(control, 1, 0, -1);
    }

    private static void askingChangesNothing() {
        CHECK.same("indicator", FOUR, FOUR.then(x -> x.indicator(2, 1)).then(x -> x.indicator(0, 2)));
    }
}
