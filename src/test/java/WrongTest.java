import java.util.ArrayList;
import java.util.List;

/** What "Terms" lists under WRONG, thing by thing, and their order. */
public final class WrongTest {
    private static final Check CHECK = new Check("WrongTest");
    private static final byte[] BOOK = Sample.BOOK;
    private static final byte[] NEXT = Sample.record("009:n");
    private static final int[] NO_DIGITS = {'0' - 1, '9' + 1, ' ', 'x', 0, 29, 30, 31, 128 + '0', 255};

    public static void main(String[] args) {
        noDigitOfL();
        digitsOfL();
        lBelow26();
        fixedBytes();
        freeBytes();
        noDigitOfBase();
        baseBelow25();
        baseAboveLLessOne();
        baseNoMultiple();
        baseLessOneNot30();
        lLessOneNot29();
        moreThan60Rows();
        noDigitOfARow();
        lengthZero();
        fieldBeyondTheRecord();
        lengthBelow3();
        tagsOfRows();
        marksInAControlField();
        lastOfAControlField();
        marksAsIndicators();
        marksAsCodes();
        marksInASubfield();
        lastOfAnotherField();
        behindTheIndicators();
        startBeforeTheLast();
        theSameBytes();
        theOrder();
        theOrderOfRows();
        CHECK.end();
    }

    /** Wrong there, and the place goes on behind the record. */
    private static void wrong(String what, byte[] record, int place) {
        Run x = Run.holding(record, NEXT);
        CHECK.due(what, x.read(), -1 - place);
        CHECK.due(what + ": length", x.reading().length(), -1);
        CHECK.due(what + ": the next", x.reading().read(), 1);
        CHECK.due(what + ": its field", x.reading().reading().answer(o -> o.field(9, 0)), 1);
    }

    /** Wrong there, and the place goes on behind the whole input. */
    private static void wrongToTheEnd(String what, byte[] record, int place) {
        Run x = Run.holding(record, NEXT);
        CHECK.due(what, x.read(), -1 - place);
        CHECK.due(what + ": length", x.reading().length(), -1);
        CHECK.due(what + ": nothing is left", x.reading().read(), 0);
    }

    private static void right(String what, byte[] record, int fields) {
        Run x = Run.holding(record);
        CHECK.due(what, x.read(), 1);
        CHECK.due(what + ": length", x.reading().length(), fields);
        CHECK.due(what + ": nothing is left", x.reading().read(), 0);
    }

    private static byte[] one(String tag, int length, int start, String data) {
        return Sample.framed(Sample.row(tag, length, start), data);
    }

    private static String five(int number) {
        return String.format("%05d", number);
    }

    /** "a byte of 0 to 4 that is no digit" */
    private static void noDigitOfL() {
        for (int p = 0; p < 5; p++) {
            for (int b : NO_DIGITS) {
                wrongToTheEnd("byte " + p + " is " + b, Sample.with(BOOK, p, b), p);
            }
            wrongToTheEnd("all from " + p + " on", Sample.with(BOOK, p, "xxxxx".substring(p)), p);
            CHECK.due("9 is a digit at " + p, Run.holding(Sample.with(BOOK, p, '9')).read(), 0);
        }
        right("byte 5 is none of them", Sample.with(BOOK, 5, 'x'), 3);
    }

    /** Every digit, 0 to 9, in each place that a short record can show. */
    private static void digitsOfL() {
        for (int size = 0; size <= 90; size++) {
            right("L is " + (39 + size), Sample.record("001:" + "x".repeat(size)), 1);
        }
        for (int total = 190; total <= 490; total += 100) {
            right("L is " + total, Sample.record("001:" + "x".repeat(total - 39)), 1);
        }
    }

    /** "L below 26 (0)": 25, 26 and 27. */
    private static void lBelow26() {
        for (int total : new int[] {0, 1, 23, 24, 25}) {
            wrongToTheEnd("L is " + total, Sample.with(BOOK, 0, five(total)), 0);
        }
        byte[] short25 = Sample.with(Sample.bytes("00026nam a2200024 a 450^!"), 0, "00025");
        wrongToTheEnd("25 bytes in all", short25, 0);
        right("L is 26", Sample.record(), 0);
        right("L is 27", Sample.framed("", "x"), 0);
    }

    /** "10, 11, 20, 21 another byte" */
    private static void fixedBytes() {
        int[] places = {10, 11, 20, 21};
        String due = "2245";
        for (int i = 0; i < places.length; i++) {
            int p = places[i];
            for (int b = 0; b < 256; b++) {
                byte[] record = Sample.with(Sample.record(), p, b);
                CHECK.due("byte " + p + " is " + b, Run.holding(record).read(), b == due.charAt(i) ? 1 : -1 - p);
            }
            wrong("byte " + p + " is one less", Sample.with(BOOK, p, due.charAt(i) - 1), p);
            wrong("byte " + p + " is one more", Sample.with(BOOK, p, due.charAt(i) + 1), p);
        }
    }

    /** "the others may be any": those beside the ones that may not be. */
    private static void freeBytes() {
        for (int p : new int[] {5, 6, 7, 8, 9, 17, 18, 19, 22, 23}) {
            for (int b : new int[] {0, 28, 29, 30, 31, 32, '0', '9', 'x', 127, 128, 255}) {
                right("byte " + p + " is " + b, Sample.with(BOOK, p, b), 3);
            }
        }
    }

    /** "a byte of 12 to 16 no digit"; 12 itself is also told for a BASE that does not fit. */
    private static void noDigitOfBase() {
        for (int p = 12; p < 17; p++) {
            for (int b : NO_DIGITS) {
                wrong("byte " + p + " is " + b, Sample.with(BOOK, p, b), p);
            }
            wrong("all from " + p + " on", Sample.with(BOOK, p, "xxxxx".substring(p - 12)), p);
            wrong("9 is a digit at " + p, Sample.with(BOOK, p, '9'), 12);
        }
        right("byte 17 is none of them", Sample.with(BOOK, 17, 'x'), 3);
    }

    /** "BASE below 25": 24, 25 and 26; 1 and 13 are multiples of 12 below 25. */
    private static void baseBelow25() {
        byte[] marks = Sample.with(Sample.framed("", "^^^^^^^^^^^^^^^"), 22, "^^");
        for (int base : new int[] {0, 1, 12, 13, 23, 24, 26}) {
            wrong("BASE is " + base, Sample.with(marks, 12, five(base)), 12);
        }
        right("BASE is 25", Sample.with(marks, 12, five(25)), 0);
    }

    /** "BASE .. above L - 1": L - 2, L - 1, L and L + 1, all with BASE - 25 a multiple of 12. */
    private static void baseAboveLLessOne() {
        right("BASE is 25, L - 1", Sample.record(), 0);
        right("BASE is 37, L - 2", one("001", 1, 0, "^"), 1);
        wrong("BASE is 37, L - 1: its row is looked at", one("001", 1, 0, ""), 27);
        wrong("BASE is 37, L", Sample.with(Sample.framed("", "x".repeat(11)), 12, five(37)), 12);
        wrong("BASE is 37, L + 1", Sample.with(Sample.framed("", "x".repeat(10)), 12, five(37)), 12);
        wrong("BASE is 37, L + 11", Sample.with(Sample.record(), 12, five(37)), 12);
        wrong("BASE is 99,997", Sample.with(BOOK, 12, five(99997)), 12);
        byte[] alone = Sample.with(Sample.record(), 12, five(37));
        CHECK.due("BASE behind the whole input", Run.holding(alone).read(), -13);
    }

    /** "BASE - 25 not a multiple of 12": 11, 12 and 13, 23, 24 and 25. */
    private static void baseNoMultiple() {
        String rows = Sample.row("001", 1, 0) + Sample.row("001", 1, 0);
        byte[] record = Sample.framed(rows, "^^^^");
        right("24 is one", record, 2);
        for (int more : new int[] {1, 6, 11, 13, 23}) {
            wrong(more + " is none", Sample.with(record, 12, five(25 + more)), 12);
        }
        wrong("25 is none", Sample.with(record, 12, five(25 + 25)), 12);
        right("12 is one", one("001", 1, 0, "^^^^"), 1);
        right("0 is one", Sample.framed("", "^^^^"), 0);
    }

    /** "BASE - 1 not 30" */
    private static void baseLessOneNot30() {
        for (int b : new int[] {0, 28, 29, 31, 32, '0', 255}) {
            wrong("BASE - 1 is " + b, Sample.with(BOOK, 60, b), 60);
            wrong("BASE - 1 of an empty one is " + b, Sample.with(Sample.record(), 24, b), 24);
        }
        wrong("BASE is a row before its mark", Sample.with(BOOK, 12, five(49)), 48);
        wrong("BASE is a row behind its mark", Sample.with(BOOK, 12, five(73)), 72);
    }

    /** "L - 1 not 29" */
    private static void lLessOneNot29() {
        for (int b : new int[] {0, 27, 28, 30, 31, '0', 255}) {
            wrongToTheEnd("L - 1 is " + b, Sample.with(BOOK, 86, b), 86);
            wrongToTheEnd("L - 1 of an empty one is " + b, Sample.with(Sample.record(), 25, b), 25);
        }
        wrongToTheEnd("L is one too small", Sample.with(BOOK, 0, five(86)), 85);
        wrongToTheEnd("L is one too large", Sample.with(BOOK, 0, five(88)), 87);
    }

    /** "more than 60 rows of the directory (24)": 59, 60 and 61, which 512 calls cannot reach. */
    private static void moreThan60Rows() {
        for (int count = 59; count <= 62; count++) {
            Run x = Run.beyond().adding(Sample.shared(count, "001", "y"), NEXT);
            CHECK.due(count + " rows", x.read(), count <= 60 ? 1 : -25);
            CHECK.due(count + " rows: length", x.reading().length(), count <= 60 ? count : -1);
            CHECK.due(count + " rows: the next", x.reading().read(), 1);
        }
        Run sixty = Run.beyond().adding(Sample.shared(60, "001", "y")).reading();
        CHECK.due("the sixtieth", sixty.answer(x -> x.subfield(60, 0, 0, 0)), 'y');
        CHECK.due("its row", sixty.answer(x -> x.directory(59, 1)), 2);
        CHECK.dueThrow("no further row", sixty, x -> x.directory(60, 0));
        byte[] many = Sample.shared(61, "001", "y");
        int last = many.length - 1;
        CHECK.due("L - 1 before it", Run.beyond().adding(Sample.with(many, last, 'x')).read(), -1 - last);
        CHECK.due("the rows behind it", Run.beyond().adding(Sample.with(many, 25, 'x')).read(), -25);
    }

    /** "a byte of it that is no digit": of each row, each byte. */
    private static void noDigitOfARow() {
        for (int p = 24; p < 60; p++) {
            for (int b : NO_DIGITS) {
                wrong("byte " + p + " is " + b, Sample.with(BOOK, p, b), p);
            }
        }
        for (int p = 24; p < 36; p++) {
            wrong("all from " + p + " on", Sample.with(BOOK, p, "x".repeat(36 - p)), p);
        }
        right("tag 0 to 9 in each place", Sample.record("019:12", "928:34", "837:56", "746:78", "650:90"), 5);
    }

    /** "LENGTH 0 .. (the first byte of LENGTH)": 0 and 1. */
    private static void lengthZero() {
        wrong("0 of a control field", one("001", 0, 0, "^"), 27);
        right("1 of a control field", one("001", 1, 0, "^"), 1);
        wrong("0 of another field", one("010", 0, 0, "12^"), 27);
        wrong("0 at the record's end", one("001", 0, 1, "^"), 27);
        wrong("0 of the second row", Sample.with(BOOK, 39, "0000"), 39);
        wrong("0 of the third row", Sample.with(BOOK, 51, "0000"), 51);
    }

    /** "BASE + START + LENGTH above L - 1 .. (the first byte of LENGTH)": L - 2, L - 1 and L. */
    private static void fieldBeyondTheRecord() {
        right("L - 2 by LENGTH", one("001", 4, 0, "abc^e"), 1);
        right("L - 1 by LENGTH", one("001", 5, 0, "abcd^"), 1);
        wrong("L by LENGTH", one("001", 6, 0, "abcd^"), 27);
        wrong("L + 1 by LENGTH", one("001", 7, 0, "abcd^"), 27);
        wrong("LENGTH 9,999", one("001", 9999, 0, "abcd^"), 27);
        right("L - 2 by START", one("001", 2, 2, "abc^e"), 1);
        right("L - 1 by START", one("001", 2, 3, "abcd^"), 1);
        wrong("L by START", one("001", 2, 4, "abcd^"), 27);
        wrong("START 99,999", one("001", 2, 99999, "abcd^"), 27);
        right("LENGTH 1, L - 1", one("001", 1, 4, "abcd^"), 1);
        wrong("LENGTH 1, L", one("001", 1, 5, "abcd^"), 27);
        right("another field, L - 1", one("010", 5, 0, "12$a^"), 1);
        wrong("another field, L", one("010", 5, 1, "12$a^"), 27);
        wrong("the third row, L", Sample.with(BOOK, 51, "0007"), 51);
        wrong("the third row, START", Sample.with(BOOK, 55, "00020"), 51);
        CHECK.due("far behind the whole input", Run.holding(one("001", 9999, 99999, "^")).read(), -28);
    }

    /** "LENGTH below 3 of a field that is no control field": 2, 3 and 4, tags 9 and 10. */
    private static void lengthBelow3() {
        for (String tag : new String[] {"010", "011", "100", "999"}) {
            wrong("1 of " + tag, one(tag, 1, 0, "^"), 27);
            wrong("2 of " + tag, one(tag, 2, 0, "1^"), 27);
            right("3 of " + tag, one(tag, 3, 0, "12^"), 1);
            wrong("4 of " + tag + " can only be wrong", one(tag, 4, 0, "12$^"), 39);
            right("5 of " + tag, one(tag, 5, 0, "12$a^"), 1);
        }
        for (String tag : new String[] {"000", "001", "008", "009"}) {
            right("1 of " + tag, one(tag, 1, 0, "^"), 1);
            right("2 of " + tag, one(tag, 2, 0, "1^"), 1);
            right("3 of " + tag, one(tag, 3, 0, "12^"), 1);
        }
    }

    /** "a TAG, 0 .. 999": each three digits are one. */
    private static void tagsOfRows() {
        for (int tag : new int[] {0, 1, 9, 10, 99, 100, 998, 999}) {
            Run x = Run.present(String.format("%03d:12", tag));
            CHECK.due("tag " + tag, x.answer(o -> o.field(tag, 0)), 1);
            CHECK.due("control field " + tag, x.answer(o -> o.indicator(1, 0)) == -1, tag < 10);
        }
    }

    /** "a byte 29, 30 or (in a control field ..) 31 that is not its last one" */
    private static void marksInAControlField() {
        for (int p = 61; p < 64; p++) {
            for (int b = 28; b <= 32; b++) {
                byte[] record = Sample.with(BOOK, p, b);
                if (b == 28 || b == 32) {
                    right(b + " at " + p, record, 3);
                } else {
                    wrong(b + " at " + p, record, p);
                }
            }
        }
        wrong("tag 9", one("009", 2, 0, "$^"), 37);
        wrong("the first of three", one("001", 4, 0, "$^!^"), 37);
    }

    /** "a last one that is not 30" of a control field */
    private static void lastOfAControlField() {
        for (int b : new int[] {0, 28, 29, 31, 32, 'x', 255}) {
            wrong("the last is " + b, Sample.with(BOOK, 64, b), 64);
            wrong("the only one is " + b, Sample.with(one("001", 1, 0, "?"), 37, b), 37);
        }
        right("the only one is 30", one("001", 1, 0, "^"), 1);
    }

    /** "a byte 29, 30 or (.. as an indicator ..) 31 that is not its last one" */
    private static void marksAsIndicators() {
        for (int p = 65; p <= 66; p++) {
            for (int b = 28; b <= 32; b++) {
                byte[] record = Sample.with(BOOK, p, b);
                if (b == 28 || b == 32) {
                    right("indicator " + b + " at " + p, record, 3);
                } else {
                    wrong("indicator " + b + " at " + p, record, p);
                }
            }
        }
        wrong("both", Sample.with(BOOK, 65, "$$"), 65);
        wrong("of a field of three bytes", one("010", 3, 0, "1$^"), 38);
        right("0 and 255", Sample.record("245:\u0000\u00ff"), 1);
    }

    /** "a byte 29, 30 or (.. as a .. code) 31 that is not its last one" */
    private static void marksAsCodes() {
        for (int p : new int[] {68, 75}) {
            for (int b = 28; b <= 32; b++) {
                byte[] record = Sample.with(BOOK, p, b);
                if (b == 28 || b == 32) {
                    right("code " + b + " at " + p, record, 3);
                } else {
                    wrong("code " + b + " at " + p, record, p);
                }
            }
        }
        wrong("31 twice", Sample.record("245:12$$a"), 40);
        wrong("31 three times", Sample.record("245:12$$$a"), 40);
        wrong("31 twice, then the last", Sample.record("245:12$$"), 40);
        wrong("31 twice behind a subfield", Sample.record("245:12$ab$$c"), 43);
        right("0 and 255", Sample.record("245:12$\u0000x$\u00ffy"), 1);
    }

    /** "a byte 29, 30 .. that is not its last one" in a subfield; a 31 begins the next one there. */
    private static void marksInASubfield() {
        for (int p = 69; p < 73; p++) {
            for (int b = 28; b <= 32; b++) {
                byte[] record = Sample.with(BOOK, p, b);
                if (b == 29 || b == 30) {
                    wrong(b + " at " + p, record, p);
                } else {
                    right(b + " at " + p, record, 3);
                }
            }
        }
        wrong("31 before another 31", Sample.with(BOOK, 73, 31), 74);
        for (int b = 29; b <= 30; b++) {
            wrong(b + " before the last", Sample.with(BOOK, 78, b), 78);
        }
        right("28 before the last", Sample.with(BOOK, 78, 28), 3);
        right("32 before the last", Sample.with(BOOK, 78, 32), 3);
    }

    /** "a last one that is not 30" of another field */
    private static void lastOfAnotherField() {
        for (int b : new int[] {0, 28, 29, 31, 32, 'x', 255}) {
            wrong("the last is " + b, Sample.with(BOOK, 79, b), 79);
            wrong("the last of three is " + b, Sample.with(one("010", 3, 0, "12?"), 39, b), 39);
            wrong("the last behind a code is " + b, Sample.with(one("010", 5, 0, "12$a?"), 41, b), 41);
        }
    }

    /** "in another field a byte behind the indicators that is neither 31 nor the last" */
    private static void behindTheIndicators() {
        for (int b : new int[] {0, 28, 29, 30, 32, 'x', 255}) {
            wrong("behind them " + b, Sample.with(BOOK, 67, b), 67);
        }
        right("31", Sample.record("245:12$a"), 1);
        right("the last", Sample.record("245:12"), 1);
        wrong("a byte, then the last", Sample.record("245:12x"), 39);
        wrong("a byte, then 31", Sample.record("245:12x$a"), 39);
    }

    /** "a 31 behind which comes the last one (at that 31)": none, one and two bytes behind it. */
    private static void startBeforeTheLast() {
        wrong("none behind the indicators' 31", Sample.record("245:12$"), 39);
        right("one", Sample.record("245:12$a"), 1);
        right("two", Sample.record("245:12$ab"), 1);
        wrong("none behind a code's 31", Sample.record("245:12$a$"), 41);
        right("one behind a code's 31", Sample.record("245:12$a$b"), 1);
        wrong("none behind a byte's 31", Sample.record("245:12$ab$"), 42);
        right("one behind a byte's 31", Sample.record("245:12$ab$c"), 1);
        wrong("at that 31, though the last is wrong too", Sample.with(BOOK, 78, "$x"), 78);
        wrong("at that 31, though the last is 31 too", Sample.with(BOOK, 78, "$$"), 78);
    }

    /** "Two rows may tell the same bytes: both are fields." */
    private static void theSameBytes() {
        right("twice", Sample.shared(2, "245", "12$ab"), 2);
        right("thirty times", Sample.shared(30, "001", "a"), 30);
        Run x = Run.present(Sample.shared(2, "245", "12$ab"));
        CHECK.due("the first", x.answer(o -> o.field(245, 0)), 1);
        CHECK.due("the second", x.answer(o -> o.field(245, 1)), 2);
        CHECK.due("its byte", x.subfield(2, 0, 'a'), "b");
        String overlap = Sample.row("245", 8, 0) + Sample.row("001", 2, 6) + Sample.row("002", 3, 5);
        right("a part of another's", Sample.framed(overlap, "12$abcd^"), 3);
        String control = Sample.row("245", 8, 0) + Sample.row("001", 6, 2);
        wrong("a control field over another's 31", Sample.framed(control, "12$abcd^"), 51);
        String other = Sample.row("001", 8, 0) + Sample.row("245", 6, 2);
        wrong("another field over a control field's", Sample.framed(other, "abcdefg^"), 53);
        right("bytes that no row tells", one("001", 1, 3, "!$^^^x"), 1);
        right("rows in another order", Sample.framed(
                Sample.row("002", 2, 2) + Sample.row("001", 2, 0), "a^b^"), 2);
    }

    /** One thing that is wrong: where, with which characters, and the place that is told. */
    private record Fault(int at, String over, int told) {
    }

    /** Each thing, in the document's order, as BOOK can show it. */
    private static List<Fault> faults() {
        List<Fault> all = new ArrayList<>();
        for (int p : new int[] {3, 4}) {
            all.add(new Fault(p, "x", p));
        }
        all.add(new Fault(0, "00025", 0));
        for (int p : new int[] {10, 11, 20, 21, 15, 16}) {
            all.add(new Fault(p, "x", p));
        }
        all.add(new Fault(12, "00062", 12));
        all.add(new Fault(60, "x", 60));
        all.add(new Fault(86, "x", 86));
        all.add(new Fault(24, "x", 24));
        all.add(new Fault(35, "x", 35));
        all.add(new Fault(27, "0000", 27));
        all.add(new Fault(61, "!", 61));
        all.add(new Fault(63, "$", 63));
        all.add(new Fault(64, "x", 64));
        all.add(new Fault(37, "x", 37));
        all.add(new Fault(39, "0002", 39));
        for (int p : new int[] {65, 66, 67, 68, 70, 75}) {
            all.add(new Fault(p, "^", p));
        }
        all.add(new Fault(78, "$", 78));
        all.add(new Fault(79, "x", 79));
        all.add(new Fault(59, "x", 59));
        all.add(new Fault(51, "0007", 51));
        all.add(new Fault(85, "x", 85));
        return all;
    }

    /** "in this order, the first thing that is met": of each two the earlier one is told. */
    private static void theOrder() {
        List<Fault> all = faults();
        for (int i = 0; i < all.size(); i++) {
            Fault first = all.get(i);
            for (int j = i; j < all.size(); j++) {
                Fault second = all.get(j);
                byte[] record = Sample.with(Sample.with(BOOK, second.at, second.over), first.at, first.over);
                boolean toTheEnd = first.told < 5 || first.told == 86;
                String what = first.told + " before " + second.told;
                if (toTheEnd) {
                    wrongToTheEnd(what, record, first.told);
                } else {
                    wrong(what, record, first.told);
                }
            }
        }
    }

    /** "Then row by row": a row and its field's bytes before the next row, wherever the bytes are. */
    private static void theOrderOfRows() {
        wrong("a field that lies behind", Sample.framed(
                Sample.row("001", 2, 5) + Sample.row("00x", 2, 0), "12^34a!"), 55);
        wrong("a row before a field that lies before", Sample.framed(
                Sample.row("001", 2, 0) + Sample.row("00x", 2, 0), "a^"), 38);
        wrong("a digit before LENGTH", Sample.with(Sample.with(BOOK, 27, "0000"), 35, 'x'), 35);
        wrong("LENGTH before its bytes", Sample.with(Sample.with(BOOK, 39, "0002"), 65, '!'), 39);
        wrong("the digit of a row before it all", Sample.with(Sample.with(BOOK, 51, "0007"), 48, 'x'), 48);
    }
}
