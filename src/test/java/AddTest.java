/** Promise 2. */
public final class AddTest {
    public static void main(String[] args) {
        Check check = new Check("AddTest");
        bytesComeInOrder(check);
        addsGoOnAfterReading(check);
        anyByteIsKept(check);
        theInputIsBounded(check);
        check.end();
    }

    private static void bytesComeInOrder(Check check) {
        ExchangeRecords x = new ExchangeRecords();
        for (int i = 0; i < Sample.BOOK.length; i++) {
            check.due("read before byte " + i, x.read(), 0);
            x.add(Sample.BOOK[i]);
        }
        check.due("read of the whole", x.read(), 1);
        check.due("written", Sample.written(x), Sample.text(Sample.BOOK));
    }

    private static void addsGoOnAfterReading(Check check) {
        ExchangeRecords x = Sample.present(Sample.BOOK);
        Sample.addAll(x, Sample.record("005:z"));
        check.due("length of the first", x.length(), 3);
        check.due("read of the second", x.read(), 1);
        check.due("length of the second", x.length(), 1);
        check.due("its byte", x.subfield(1, 0, 0, 0), 'z');
    }

    private static void anyByteIsKept(Check check) {
        StringBuilder all = new StringBuilder("003:");
        for (int b = 0; b < 256; b++) {
            if (b < 29 || b > 31) {
                all.append("$^!".indexOf(b) >= 0 ? 'x' : (char) b);
            }
        }
        ExchangeRecords x = Sample.present(all.toString());
        for (int k = 4; k < all.length(); k++) {
            check.due("byte " + k, x.subfield(1, 0, 0, k - 4), all.charAt(k));
        }
    }

    /** More than 512 calls, where nothing is promised: this program keeps the bound there too. */
    private static void theInputIsBounded(Check check) {
        byte[] filler = Sample.record("001:" + "f".repeat(1500 - 26 - 12 - 1 - 26));
        check.due("the filler", filler.length, 1474);
        byte[] small = Sample.record();
        check.due("the small one", small.length, 26);
        ExchangeRecords full = Sample.holding(filler, small, small);
        check.due("read of the filler", full.read(), 1);
        check.due("read of what just fits", full.read(), 1);
        check.due("read of what was lost", full.read(), 0);
        Sample.addAll(full, small);
        check.due("read of what was lost later", full.read(), 0);

        byte[] longer = Sample.record("001:" + "f".repeat(1500 - 26 - 12 - 1 - 25));
        ExchangeRecords x = Sample.holding(longer, small);
        check.due("read of the longer filler", x.read(), 1);
        check.due("read of what lacks its last byte", x.read(), 0);
    }
}
