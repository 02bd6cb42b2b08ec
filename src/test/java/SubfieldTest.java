/** Promise 6: subfield. */
public final class SubfieldTest {
    private static final Check CHECK = new Check("SubfieldTest");
    private static final int[] FAR = {-1, -2, Integer.MIN_VALUE, Integer.MAX_VALUE, Integer.MAX_VALUE - 1};
    private static final Run TWO = Run.present("245:ab$axy$bz$aq$apaa", "100:12$bw");

    public static void main(String[] args) {
        byteKOfTheIth();
        iOutside();
        kOutside();
        codesBesideIt();
        noSuchField();
        bytesFrom0To255();
        ofAControlField();
        kOutsideAControlField();
        withoutBytes();
        whatLooksLikeASubfield();
        eachFieldHasItsOwn();
        ofNoRecord();
        askingChangesNothing();
        CHECK.end();
    }

    private static void due(Run x, int field, int i, int code, int k, int b) {
        String call = "subfield(" + field + ", " + i + ", " + code + ", " + k + ")";
        CHECK.due(call, x.answer(o -> o.subfield(field, i, code, k)), b);
    }

    /** "Of a field's subfields with a code, in order, byte k, from 0 on, of the i-th" */
    private static void byteKOfTheIth() {
        CHECK.due("a 0", TWO.subfield(1, 0, 'a'), "xy");
        CHECK.due("a 1", TWO.subfield(1, 1, 'a'), "q");
        CHECK.due("a 2", TWO.subfield(1, 2, 'a'), "paa");
        CHECK.due("b 0", TWO.subfield(1, 0, 'b'), "z");
        CHECK.due("b 0 of the second", TWO.subfield(2, 0, 'b'), "w");
        due(TWO, 1, 0, 'a', 0, 'x');
        due(TWO, 1, 0, 'a', 1, 'y');
        due(TWO, 1, 2, 'a', 2, 'a');
    }

    /** "NONE if there is none such": i one below the first and one behind the last. */
    private static void iOutside() {
        due(TWO, 1, -1, 'a', 0, -1);
        due(TWO, 1, 3, 'a', 0, -1);
        due(TWO, 1, 1, 'b', 0, -1);
        due(TWO, 2, 1, 'b', 0, -1);
        due(TWO, 2, 0, 'a', 0, -1);
        for (int far : FAR) {
            due(TWO, 1, far, 'a', 0, -1);
        }
    }

    /** "NONE if there is none such": k one below the first and one behind the last, not of the next one. */
    private static void kOutside() {
        due(TWO, 1, 0, 'a', -1, -1);
        for (int k = 2; k < 8; k++) {
            due(TWO, 1, 0, 'a', k, -1);
        }
        due(TWO, 1, 1, 'a', -1, -1);
        due(TWO, 1, 1, 'a', -2, -1);
        due(TWO, 1, 1, 'a', 1, -1);
        due(TWO, 1, 2, 'a', 3, -1);
        due(TWO, 2, 0, 'b', 1, -1);
        for (int far : FAR) {
            due(TWO, 1, 0, 'a', far, -1);
        }
    }

    /** A code is the whole number, 0 .. 255; no word here takes the lowest eight bits. */
    private static void codesBesideIt() {
        for (int code : new int[] {'a' - 1, 'c', 'x', 0, 28, 29, 30, 31, 32, 'a' + 256, 'a' - 256, 255, 256}) {
            due(TWO, 1, 0, code, 0, -1);
        }
        for (int far : FAR) {
            due(TWO, 1, 0, far, 0, -1);
        }
        Run x = Run.present("245:12$\u0000p$\u00ffq");
        due(x, 1, 0, 0, 0, 'p');
        due(x, 1, 0, 255, 0, 'q');
        due(x, 1, 0, -1, 0, -1);
        due(x, 1, 0, 256, 0, -1);
        due(x, 1, 0, 1, 0, -1);
        due(x, 1, 0, 254, 0, -1);
    }

    /** "NONE if there is none such": fields 0 and one behind the last. */
    private static void noSuchField() {
        due(TWO, 0, 0, 'a', 0, -1);
        due(TWO, 3, 0, 'a', 0, -1);
        due(TWO, 60, 0, 'a', 0, -1);
        due(TWO, 61, 0, 'a', 0, -1);
        due(TWO, 257, 0, 'a', 0, -1);
        for (int far : FAR) {
            due(TWO, far, 0, 'a', 0, -1);
        }
    }

    /** "0 .. 255" */
    private static void bytesFrom0To255() {
        Run x = Run.present("245:12$a\u0000\u007f\u0080\u00ff", "007:\u0000\u007f\u0080\u00ff");
        int[] bytes = {0, 127, 128, 255};
        for (int k = 0; k < bytes.length; k++) {
            due(x, 1, 0, 'a', k, bytes[k]);
            due(x, 2, 0, 'a', k, bytes[k]);
        }
    }

    /** "of a control field, whatever i and code are, byte k": tags 0 and 9, not 10. */
    private static void ofAControlField() {
        Run x = Run.present("009:abc", "000:d", "010:12$ae");
        for (int any : new int[] {0, 1, 9, -1, 29, 30, 31, 'a', 256, Integer.MIN_VALUE, Integer.MAX_VALUE}) {
            due(x, 1, any, 0, 0, 'a');
            due(x, 1, 0, any, 2, 'c');
            due(x, 2, any, any, 0, 'd');
        }
        due(x, 3, 0, 'a', 0, 'e');
        due(x, 3, 1, 'a', 0, -1);
        due(x, 3, 0, 'b', 0, -1);
    }

    private static void kOutsideAControlField() {
        Run x = Run.present("009:abc", "001:", "002:d");
        due(x, 1, 0, 0, -1, -1);
        due(x, 1, 0, 0, 3, -1);
        due(x, 1, 0, 0, 4, -1);
        due(x, 2, 0, 0, 0, -1);
        due(x, 2, 0, 0, -1, -1);
        due(x, 3, 0, 0, 1, -1);
        for (int far : FAR) {
            due(x, 1, 0, 0, far, -1);
        }
    }

    /** A subfield without bytes is one of the i: it has no byte, the next one has its own. */
    private static void withoutBytes() {
        Run x = Run.present("245:12$a$ab$a", "300:ab");
        due(x, 1, 0, 'a', 0, -1);
        due(x, 1, 1, 'a', 0, 'b');
        due(x, 1, 1, 'a', 1, -1);
        due(x, 1, 2, 'a', 0, -1);
        due(x, 1, 3, 'a', 0, -1);
        due(x, 2, 0, 'a', 0, -1);
        due(x, 2, 0, 'b', 0, -1);
    }

    /** Bytes and indicators are no codes, whatever they are. */
    private static void whatLooksLikeASubfield() {
        due(TWO, 1, 0, 'y', 0, -1);
        due(TWO, 1, 0, 'p', 0, -1);
        Run x = Run.blank().then(o -> o.put(245, 31 << 8 | 31));
        due(x, 1, 0, 31, 0, -1);
        Run more = x.then(o -> o.subfield2(1, 'a', 'x'));
        due(more, 1, 0, 31, 0, -1);
        due(more, 1, 0, 'a', 0, 'x');
        Run start = Run.blank().then(o -> o.put(245, 31 << 8 | 'b')).then(o -> o.subfield2(1, 'a', 'x'));
        due(start, 1, 0, 'b', 0, -1);
    }

    private static void eachFieldHasItsOwn() {
        Run x = Run.present(Sample.shared(3, "245", "12$abc")).then(o -> o.subfield2(2, 'a', 'd'));
        CHECK.due("the first", x.subfield(1, 0, 'a'), "bc");
        CHECK.due("the second", x.subfield(2, 0, 'a'), "bcd");
        CHECK.due("the third", x.subfield(3, 0, 'a'), "bc");
    }

    private static void ofNoRecord() {
        due(Run.start(), 1, 0, 'a', 0, -1);
        due(Run.blank(), 1, 0, 'a', 0, -1);
        Run wrong = Run.present(Sample.BOOK).adding(Sample.bytes("x".repeat(24))).reading();
        due(wrong, 1, 0, 0, 0, -1);
        due(wrong, 2, 0, 'a', 0, -1);
        Run shorter = Run.holding(Sample.BOOK, Sample.record("001:x")).reading().reading();
        due(shorter, 1, 0, 0, 1, -1);
        due(shorter, 2, 0, 'a', 0, -1);
    }

    private static void askingChangesNothing() {
        CHECK.same("subfield", TWO, TWO.then(x -> x.subfield(1, 1, 'a', 0)).then(x -> x.subfield(3, -1, 30, -1)));
    }
}
