/** Promise 6. */
public final class SubfieldTest {
    private static final int[] FAR = {-1, -2, Integer.MIN_VALUE, Integer.MAX_VALUE, Integer.MAX_VALUE - 1};

    public static void main(String[] args) {
        Check check = new Check("SubfieldTest");
        byCodeAndOrder(check);
        bytesAreUnsigned(check);
        ofControlFields(check);
        withoutBytes(check);
        ofSharedBytes(check);
        check.end();
    }

    private static void byCodeAndOrder(Check check) {
        ExchangeRecords x = Sample.present("245:ab$axy$bz$aq$apaa", "100:12$bw");
        check.due("a 0", Sample.subfield(x, 1, 0, 'a'), "xy");
        check.due("a 1", Sample.subfield(x, 1, 1, 'a'), "q");
        check.due("a 2", Sample.subfield(x, 1, 2, 'a'), "paa");
        check.due("a 3", Sample.subfield(x, 1, 3, 'a'), "");
        check.due("b 0", Sample.subfield(x, 1, 0, 'b'), "z");
        check.due("b 1", Sample.subfield(x, 1, 1, 'b'), "");
        check.due("b 0 of 2", Sample.subfield(x, 2, 0, 'b'), "w");
        check.due("a byte is no code", Sample.subfield(x, 1, 0, 'x'), "");
        check.due("not into the next one", x.subfield(1, 0, 'a', 2), -1);
        check.due("not to the next one's byte", x.subfield(1, 0, 'a', 4), -1);
        check.due("not behind the last", x.subfield(1, 2, 'a', 3), -1);
        check.due("not before the first", x.subfield(1, 0, 'b', -1), -1);
        for (int far : FAR) {
            check.due("field " + far, x.subfield(far, 0, 'a', 0), -1);
            check.due("i " + far, x.subfield(1, far, 'a', 0), -1);
            check.due("code " + far, x.subfield(1, 0, far, 0), -1);
            check.due("k " + far, x.subfield(1, 0, 'a', far), -1);
        }
        check.due("field 0", x.subfield(0, 0, 'a', 0), -1);
        check.due("field 3", x.subfield(3, 0, 'a', 0), -1);
        check.due("a code above a byte", x.subfield(1, 0, 'a' + 256, 0), -1);
        for (int mark = 29; mark <= 31; mark++) {
            check.due("code " + mark, x.subfield(1, 0, mark, 0), -1);
        }
    }

    private static void bytesAreUnsigned(Check check) {
        ExchangeRecords x = Sample.present("245:12$\u00ff\u0080\u00fe", "007:\u00ff\u0000");
        check.due("byte 0", x.subfield(1, 0, 255, 0), 128);
        check.due("byte 1", x.subfield(1, 0, 255, 1), 254);
        check.due("no code -1", x.subfield(1, 0, -1, 0), -1);
        check.due("control 0", x.subfield(2, 0, 0, 0), 255);
        check.due("control 1", x.subfield(2, 0, 0, 1), 0);
    }

    private static void ofControlFields(Check check) {
        ExchangeRecords x = Sample.present("009:abc", "001:");
        for (int any : new int[] {0, 1, 9, -1, 'a', Integer.MIN_VALUE, Integer.MAX_VALUE}) {
            check.due("i " + any, x.subfield(1, any, 0, 0), 'a');
            check.due("code " + any, x.subfield(1, 0, any, 2), 'c');
        }
        check.due("byte 3", x.subfield(1, 0, 0, 3), -1);
        for (int far : FAR) {
            check.due("byte " + far, x.subfield(1, 0, 0, far), -1);
        }
        check.due("an empty one", x.subfield(2, 0, 0, 0), -1);
    }

    private static void withoutBytes(Check check) {
        ExchangeRecords x = Sample.present("245:12$a$ab$a", "300:ab");
        check.due("an empty one counts", x.subfield(1, 0, 'a', 0), -1);
        check.due("the next one", x.subfield(1, 1, 'a', 0), 'b');
        check.due("not further", x.subfield(1, 1, 'a', 1), -1);
        check.due("an empty one at the end", x.subfield(1, 2, 'a', 0), -1);
        check.due("no subfields", x.subfield(2, 0, 'a', 0), -1);
        check.due("indicators are no subfield", x.subfield(2, 0, 'b', 0), -1);
        ExchangeRecords y = Sample.blank();
        y.put(245, 0x1f1f);
        check.due("an indicator 31 is no subfield", y.subfield(1, 0, 31, 0), -1);
        y.subfield2(1, 'a', 'x');
        check.due("nor with one behind it", y.subfield(1, 0, 31, 0), -1);
        check.due("but that one is", y.subfield(1, 0, 'a', 0), 'x');
    }

    private static void ofSharedBytes(Check check) {
        ExchangeRecords x = Sample.present(Sample.shared(3, "245", "12$abc"));
        x.subfield2(2, 'a', 'd');
        check.due("the first", Sample.subfield(x, 1, 0, 'a'), "bc");
        check.due("the second", Sample.subfield(x, 2, 0, 'a'), "bcd");
        check.due("the third", Sample.subfield(x, 3, 0, 'a'), "bc");
    }
}
