/** Promise 5. */
public final class IndicatorTest {
    public static void main(String[] args) {
        Check check = new Check("IndicatorTest");
        ExchangeRecords x = Sample.present("009:ab", "010:17$ac", "999:\u00ff\u0080", "245:  $aX");
        check.due("indicator(2, 0)", x.indicator(2, 0), '1');
        check.due("indicator(2, 1)", x.indicator(2, 1), '7');
        check.due("indicator(3, 0)", x.indicator(3, 0), 255);
        check.due("indicator(3, 1)", x.indicator(3, 1), 128);
        check.due("indicator(4, 0)", x.indicator(4, 0), ' ');
        for (int which : new int[] {-1, 2, 3, 256, Integer.MIN_VALUE, Integer.MAX_VALUE}) {
            check.due("indicator(2, " + which + ")", x.indicator(2, which), -1);
        }
        check.due("of a control field", x.indicator(1, 0), -1);
        check.due("of a control field", x.indicator(1, 1), -1);
        for (int field : new int[] {0, -1, 5, 61, Integer.MIN_VALUE, Integer.MAX_VALUE}) {
            check.due("of field " + field, x.indicator(field, 0), -1);
        }
        x.put(10, 0x1234);
        check.due("the first that was put", x.indicator(5, 0), 0x12);
        check.due("the second that was put", x.indicator(5, 1), 0x34);
        x.put(9, 0x1234);
        check.due("of a control field that was put", x.indicator(6, 0), -1);
        check.due("of a control field that was put", x.indicator(6, 1), -1);
        check.end();
    }
}
