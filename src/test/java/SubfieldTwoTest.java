/** Promise 11: subfield2. */
public final class SubfieldTwoTest {
    private static final Check CHECK = new Check("SubfieldTwoTest");
    private static final Run THREE = Run.present("245:12", "300:34$ab", "001:c");

    public static void main(String[] args) {
        inTheLastSubfield();
        inANewOne();
        anEmptyLastOne();
        behindAControlFieldsBytes();
        theLowestEightBits();
        noSuchField();
        theByteIsAMark();
        theCodeOfANewOneIsAMark();
        theCodeOfNoNewOne();
        longFields();
        boundOfControlFields();
        boundOfBytesInTheLastSubfield();
        boundOfANewSubfield();
        boundCountsCodes();
        boundCountsIndicators();
        boundCountsNoMarks();
        boundOfControlFieldsThatWerePut();
        readWithMore();
        boundOfThePresentRecordAlone();
        nothingElseChanges();
        CHECK.end();
    }

    private static void fields(String what, Run x, String... due) {
        String got = x.written();
        String want = Sample.text(Sample.record(due));
        CHECK.due(what + ": size", got.substring(0, 5), want.substring(0, 5));
        CHECK.due(what, got.substring(24), want.substring(24));
    }

    private static void refused(String what, Run x, int field, int code, int c) {
        String call = what + "subfield2(" + field + ", " + code + ", " + c + ")";
        CHECK.same(call, x, x.then(o -> o.subfield2(field, code, c)));
    }

    /** "A byte more .. in the last subfield of a field, if that has this code" */
    private static void inTheLastSubfield() {
        Run x = Run.present("400:56$axy$bz$aq");
        fields("once", x.then(o -> o.subfield2(1, 'a', 'v')), "400:56$axy$bz$aqv");
        fields("twice", x.then(o -> o.subfield2(1, 'a', 'v')).then(o -> o.subfield2(1, 'a', 'w')),
                "400:56$axy$bz$aqvw");
        fields("of one field alone", THREE.then(o -> o.subfield2(2, 'a', 'x')), "245:12", "300:34$abx", "001:c");
    }

    /** "else in a new one at its end": with another code, or if there is no subfield at all. */
    private static void inANewOne() {
        fields("the first one", THREE.then(o -> o.subfield2(1, 'a', 'p')), "245:12$ap", "300:34$ab", "001:c");
        for (int code : new int[] {0, 1, 28, 32, 128, 255}) {
            String one = String.valueOf((char) code);
            fields("the first one, code " + code, Run.present("400:56").then(o -> o.subfield2(1, code, 'v')),
                    "400:56$" + one + "v");
            fields("a field that was put, code " + code,
                    Run.blank().then(o -> o.put(400, '5' << 8 | '6')).then(o -> o.subfield2(1, code, 'v')),
                    "400:56$" + one + "v");
        }
        Run x = Run.present("400:56$axy$bz");
        fields("an earlier one's code", x.then(o -> o.subfield2(1, 'a', 'v')), "400:56$axy$bz$av");
        fields("a new code", x.then(o -> o.subfield2(1, 'c', 'v')), "400:56$axy$bz$cv");
        fields("a code one less", x.then(o -> o.subfield2(1, 'b' - 1, 'v')), "400:56$axy$bz$av");
        fields("a byte is no code", x.then(o -> o.subfield2(1, 'z', 'z')), "400:56$axy$bz$zz");
        fields("an indicator is no code", Run.present("400:56").then(o -> o.subfield2(1, '6', 'v')), "400:56$6v");
        Run many = Run.present("245:12").then(o -> o.subfield2(1, 'a', 'p')).then(o -> o.subfield2(1, 'a', 'q'))
                .then(o -> o.subfield2(1, 'b', 'r')).then(o -> o.subfield2(1, 'a', 's'));
        fields("one after the other", many, "245:12$apq$br$as");
        CHECK.due("its byte", many.answer(o -> o.subfield(1, 1, 'a', 0)), 's');
    }

    private static void anEmptyLastOne() {
        Run x = Run.present("300:34$a$b");
        fields("its code", x.then(o -> o.subfield2(1, 'b', 't')), "300:34$a$bt");
        fields("the code before", x.then(o -> o.subfield2(1, 'a', 't')), "300:34$a$b$at");
    }

    /** "of a control field behind its bytes": tags 0 and 9, not 10; whatever the code is. */
    private static void behindAControlFieldsBytes() {
        Run x = Run.present("009:", "000:ab", "010:12");
        for (int code : new int[] {0, 'a', 28, 29, 30, 31, 32, 255, 256, -1, Integer.MIN_VALUE, Integer.MAX_VALUE}) {
            fields("an empty one, code " + code, x.then(o -> o.subfield2(1, code, 'x')), "009:x", "000:ab", "010:12");
            fields("code " + code, x.then(o -> o.subfield2(2, code, 'z')), "009:", "000:abz", "010:12");
        }
        fields("tag 10", x.then(o -> o.subfield2(3, 'a', 'x')), "009:", "000:ab", "010:12$ax");
        fields("two codes", x.then(o -> o.subfield2(1, 'a', 'x')).then(o -> o.subfield2(1, 'b', 'y')),
                "009:xy", "000:ab", "010:12");
    }

    /** "(the lowest eight bits)" of the byte and of the code */
    private static void theLowestEightBits() {
        for (int high : new int[] {0, 256, 512, -256, 1 << 30, Integer.MIN_VALUE}) {
            Run x = Run.present("245:12$ax").then(o -> o.subfield2(1, high + 'a', high + 'y'));
            fields("the last one's code and " + high, x, "245:12$axy");
            Run y = Run.present("245:12$ax").then(o -> o.subfield2(1, high + 'b', high + 'y'));
            fields("a new one's code and " + high, y, "245:12$ax$by");
            CHECK.due("its code", y.answer(o -> o.subfield(1, 0, 'b', 0)), 'y');
            Run z = Run.present("001:x").then(o -> o.subfield2(1, 0, high + 'y'));
            fields("a control field's and " + high, z, "001:xy");
        }
        Run x = Run.present("245:12").then(o -> o.subfield2(1, -1, -1)).then(o -> o.subfield2(1, 255, 0))
                .then(o -> o.subfield2(1, 511, 256)).then(o -> o.subfield2(1, 256, 255));
        fields("-1, 0, 255 and 256", x, "245:12$\u00ff\u00ff\u0000\u0000$\u0000\u00ff");
        CHECK.due("code 255", x.subfield(1, 0, 255), "\u00ff\u0000\u0000");
        CHECK.due("code 0", x.subfield(1, 0, 0), "\u00ff");
    }

    /** "Nothing happens if there is no such field": 0, and one behind the last. */
    private static void noSuchField() {
        for (int field : new int[] {0, -1, -2, 4, 5, 60, 61, 257, Integer.MIN_VALUE, Integer.MAX_VALUE}) {
            refused("", THREE, field, 'a', 'x');
        }
        refused("no record, ", Run.start(), 1, 'a', 'x');
        refused("no fields, ", Run.blank(), 1, 'a', 'x');
        refused("no fields, ", Run.present(), 1, 'a', 'x');
        refused("a wrong one, ", Run.present(Sample.BOOK).adding(Sample.bytes("x".repeat(24))).reading(), 1, 'a', 'x');
        refused("a shorter one, ", Run.holding(Sample.BOOK, Sample.record("001:x")).reading().reading(), 2, 'a', 'x');
    }

    /** "Nothing happens if .. the byte .. is 29 to 31": 28 and 32 are none of these. */
    private static void theByteIsAMark() {
        for (int mark = 29; mark <= 31; mark++) {
            for (int high : new int[] {0, 256, -256}) {
                for (int field = 1; field <= 3; field++) {
                    refused("the last code, ", THREE, field, 'a', mark + high);
                    refused("another code, ", THREE, field, 'z', mark + high);
                }
            }
        }
        for (int b : new int[] {28, 32, 28 + 256, 32 - 256}) {
            String one = String.valueOf((char) (b & 255));
            fields("a new one's " + b, THREE.then(x -> x.subfield2(1, 'a', b)), "245:12$a" + one, "300:34$ab", "001:c");
            fields("the last one's " + b, THREE.then(x -> x.subfield2(2, 'a', b)), "245:12", "300:34$ab" + one, "001:c");
            fields("a control field's " + b, THREE.then(x -> x.subfield2(3, 'a', b)), "245:12", "300:34$ab", "001:c" + one);
        }
    }

    /** "Nothing happens if .. the code of a new one, is 29 to 31": 28 and 32 are none of these. */
    private static void theCodeOfANewOneIsAMark() {
        for (int mark = 29; mark <= 31; mark++) {
            for (int high : new int[] {0, 256, -256}) {
                refused("the first one, ", THREE, 1, mark + high, 'x');
                refused("a second one, ", THREE, 2, mark + high, 'x');
            }
        }
        for (int code : new int[] {28, 32, 28 + 256, 32 - 256}) {
            String one = String.valueOf((char) (code & 255));
            fields("the first one's " + code, THREE.then(x -> x.subfield2(1, code, 'x')),
                    "245:12$" + one + "x", "300:34$ab", "001:c");
            fields("a second one's " + code, THREE.then(x -> x.subfield2(2, code, 'x')),
                    "245:12", "300:34$ab$" + one + "x", "001:c");
        }
    }

    /** A control field has no new one: its code forbids nothing. */
    private static void theCodeOfNoNewOne() {
        for (int mark = 29; mark <= 31; mark++) {
            int code = mark;
            fields("code " + mark, THREE.then(x -> x.subfield2(3, code, 'x')), "245:12", "300:34$ab", "001:cx");
        }
    }

    private static void longFields() {
        Run x = Run.present(Sample.BOOK);
        for (int i = 0; i < 80; i++) {
            int c = 'a' + i % 26;
            x = x.then(o -> o.subfield2(1, 0, c)).then(o -> o.subfield2(2, 'c', c));
        }
        String letters = "abcdefghijklmnopqrstuvwxyz".repeat(4).substring(0, 80);
        fields("long ones", x, "001:id7" + letters, "245:10$aTitle$bsub$c" + letters, "245:  $aX");
        Run y = Run.present("001:", "245:12");
        for (int i = 0; i < 100; i++) {
            int code = 'a' + i % 2;
            y = y.then(o -> o.subfield2(2, code, 'x'));
        }
        fields("many subfields", y, "001:", "245:12" + "$ax$bx".repeat(50));
    }

    /** So many bytes in the fields: eleven control fields that share theirs, and a twelfth with the rest. */
    private static byte[] controlFields(int held) {
        int each = held / 11;
        int rest = held % 11;
        String rows = Sample.row("001", each + 1, 0).repeat(11) + Sample.row("002", rest + 1, each - rest);
        return Sample.framed(rows, "x".repeat(each) + "^");
    }

    /** Ten fields, each with two indicators, a code and so many bytes. */
    private static byte[] otherFields(int bytes) {
        return Sample.shared(10, "245", "12$a" + "x".repeat(bytes));
    }

    private static int sizeOf(Run x, int field) {
        return x.subfield(field, 0, 'a').length();
    }

    private static void grows(String what, Run x, int field, int code, int by) {
        long before = x.answer(o -> o.write());
        long after = x.then(o -> o.subfield2(field, code, 'y')).answer(o -> o.write());
        CHECK.due(what, after - before, by);
        if (by == 0) {
            refused(what + ", ", x, field, code, 'y');
        }
    }

    /** "or the fields would have more than 1,200 bytes together": 1,199, 1,200 and 1,201. */
    private static void boundOfControlFields() {
        for (int held = 1197; held <= 1201; held++) {
            Run x = Run.present(controlFields(held));
            grows("one more than " + held, x, 12, 0, held < 1200 ? 1 : 0);
            grows("one more than " + held + " in the first", x, 1, 0, held < 1200 ? 1 : 0);
        }
        Run x = Run.present(controlFields(1197));
        int size = sizeOf(x, 12);
        for (int i = 0; i < 5; i++) {
            x = x.then(o -> o.subfield2(12, 0, 'y'));
        }
        CHECK.due("three of five", sizeOf(x, 12), size + 3);
    }

    private static void boundOfBytesInTheLastSubfield() {
        Run x = Run.present(otherFields(116));
        for (int held = 1190; held < 1200; held++) {
            grows("one more than " + held, x, 1 + held % 10, 'a', 1);
            int field = 1 + held % 10;
            x = x.then(o -> o.subfield2(field, 'a', 'y'));
        }
        grows("one more than 1,200", x, 1, 'a', 0);
        grows("one more than 1,200 in the last", x, 10, 'a', 0);
        Run full = Run.present(otherFields(117));
        grows("one more than 1,200 that were read", full, 1, 'a', 0);
    }

    /** "codes .. too": a new one needs two bytes; where it has no room, a byte alone may have it. */
    private static void boundOfANewSubfield() {
        Run x = Run.present(otherFields(116));
        for (int held = 1190; held < 1197; held++) {
            x = x.then(o -> o.subfield2(1, 'a', 'y'));
        }
        grows("a new one behind 1,197", x, 2, 'b', 3);
        Run y = x.then(o -> o.subfield2(1, 'a', 'y'));
        grows("a new one behind 1,198", y, 2, 'b', 3);
        grows("nothing behind that", y.then(o -> o.subfield2(2, 'b', 'y')), 2, 'b', 0);
        Run z = y.then(o -> o.subfield2(1, 'a', 'y'));
        grows("a new one behind 1,199", z, 2, 'b', 0);
        grows("a byte alone behind 1,199", z, 2, 'a', 1);
        Run full = z.then(o -> o.subfield2(1, 'a', 'y'));
        grows("a new one behind 1,200", full, 2, 'b', 0);
        grows("a byte alone behind 1,200", full, 2, 'a', 0);
    }

    /** "codes .. too": those that are there count, with bytes or without. */
    private static void boundCountsCodes() {
        // 20 * (2 + 4 + 53) = 1,180 bytes, of which 80 are codes.
        String some = "12$a$b$c$a" + "x".repeat(53);
        Run x = Run.present(Sample.shared(20, "245", some));
        for (int i = 0; i < 19; i++) {
            x = x.then(o -> o.subfield2(1, 'a', 'y'));
        }
        grows("the twentieth", x, 1, 'a', 1);
        grows("the twenty-first", x.then(o -> o.subfield2(1, 'a', 'y')), 1, 'a', 0);
    }

    /** "and indicators too": those that were read, and those that were put. */
    private static void boundCountsIndicators() {
        // 20 * 2 indicators, and 20 * (1 + 57).
        Run read = Run.present(Sample.shared(20, "245", "12$a" + "x".repeat(57)));
        grows("1,200 with the indicators", read, 1, 'a', 0);
        for (int held = 1196; held <= 1199; held++) {
            Run x = Run.present(controlFields(held)).then(o -> o.put(10, 0x4142));
            grows(held + " and 2, a byte alone", x, 1, 0, held + 2 + 1 <= 1200 ? 1 : 0);
            grows(held + " and 2, a new one", x, 13, 'a', held + 2 + 2 <= 1200 ? 3 : 0);
        }
    }

    /** The 31s and the ends stand in the form alone: the fields do not have them. */
    private static void boundCountsNoMarks() {
        // 20 * (2 + 19 + 20) = 820 bytes, but 1,220 with each 31 and each end.
        Run x = Run.present(Sample.shared(20, "245", "12" + "$a".repeat(19) + "b".repeat(20)));
        grows("821 bytes", x, 1, 'a', 1);
        // 11 * 109 = 1,199 bytes, but 1,211 with the twelve ends.
        grows("ends of control fields", Run.present(controlFields(1199)), 1, 0, 1);
    }

    /** A control field has no indicators: what was put with it counts nothing. */
    private static void boundOfControlFieldsThatWerePut() {
        Run x = Run.present(controlFields(1199)).then(o -> o.put(9, 0x4142));
        grows("1,199 and a control field", x, 13, 0, 1);
        grows("1,200 and a control field", x.then(o -> o.subfield2(13, 0, 'y')), 13, 0, 0);
        Run other = Run.present(controlFields(1199)).then(o -> o.put(10, 0x4142));
        grows("1,199 and another field", other, 1, 0, 0);
    }

    /** A record may be read with more: then nothing comes to it. */
    private static void readWithMore() {
        Run x = Run.present(controlFields(1300));
        grows("more than 1,300", x, 1, 0, 0);
        grows("more than 1,300 in a field that was put", x.then(o -> o.put(100, 0x4142)), 13, 'a', 0);
    }

    /** An earlier record's bytes, indicators and subfields count no more. */
    private static void boundOfThePresentRecordAlone() {
        Run x = Run.holding(controlFields(1300), Sample.record("001:")).reading().reading();
        grows("behind a long one", x, 1, 0, 1);
        Run y = Run.holding(Sample.shared(10, "245", "12$a$a$a"), controlFields(1200)).reading().reading();
        grows("behind one of many subfields", y, 1, 0, 0);
        Run z = Run.holding(Sample.shared(10, "245", "12$a$a$a"), controlFields(1199)).reading().reading();
        grows("behind one of many subfields, a byte less", z, 1, 0, 1);
    }

    /** The input, the directory and what was written stay; so does the next record. */
    private static void nothingElseChanges() {
        Run before = Run.holding(Sample.BOOK, Sample.BOOK).reading().then(x -> x.write());
        Run after = before.then(x -> x.subfield2(2, 'z', 'z')).then(x -> x.subfield2(1, 0, 'z'));
        CHECK.due("the directory", after.directoryPicture(), before.directoryPicture());
        CHECK.due("latest", after.octets(), Sample.text(Sample.BOOK));
        CHECK.due("the input", after.read(), 1);
        CHECK.due("the next record", after.reading().written(), Sample.text(Sample.BOOK));
    }
}
