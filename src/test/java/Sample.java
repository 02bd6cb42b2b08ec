import java.nio.charset.StandardCharsets;

/** Records for the tests. In a field's text '$' stands for byte 31, '^' for 30, '!' for 29. */
final class Sample {
    static final String LEADER = "00000nam a2200000 a 4500";

    /** Three fields of 26 + 36 + 25 bytes: what most tests ask. */
    static final byte[] BOOK = record("001:id7", "245:10$aTitle$bsub", "245:  $aX");

    private Sample() {
    }

    static byte[] bytes(String text) {
        String marked = text.replace('$', (char) 31).replace('^', (char) 30).replace('!', (char) 29);
        return marked.getBytes(StandardCharsets.ISO_8859_1);
    }

    /** A record of fields, each told as "tag:text", the text without its end. */
    static byte[] record(String... fields) {
        StringBuilder rows = new StringBuilder();
        StringBuilder data = new StringBuilder();
        for (String field : fields) {
            String text = field.substring(4) + "^";
            rows.append(row(field.substring(0, 3), text.length(), data.length()));
            data.append(text);
        }
        return framed(rows.toString(), data.toString());
    }

    /** A record in which each of the tags has the same bytes. */
    static byte[] shared(int count, String tag, String text) {
        return framed(row(tag, text.length() + 1, 0).repeat(count), text + "^");
    }

    static String row(String tag, int length, int start) {
        return tag + String.format("%04d%05d", length, start);
    }

    /** A record with a directory and the bytes from BASE on, but for the record's end. */
    static byte[] framed(String rows, String data) {
        int base = 25 + rows.length();
        int total = base + data.length() + 1;
        String leader = String.format("%05d", total) + LEADER.substring(5, 12)
                + String.format("%05d", base) + LEADER.substring(17);
        return bytes(leader + rows + "^" + data + "!");
    }

    static byte[] with(byte[] record, int place, int b) {
        byte[] changed = record.clone();
        changed[place] = (byte) b;
        return changed;
    }

    /** Digits or other characters over a record's own from a place on. */
    static byte[] with(byte[] record, int place, String text) {
        byte[] changed = record.clone();
        byte[] over = bytes(text);
        System.arraycopy(over, 0, changed, place, over.length);
        return changed;
    }

    static ExchangeRecords holding(byte[]... inputs) {
        ExchangeRecords x = new ExchangeRecords();
        for (byte[] input : inputs) {
            addAll(x, input);
        }
        return x;
    }

    static void addAll(ExchangeRecords x, byte[] input) {
        for (byte b : input) {
            x.add(b);
        }
    }

    /** An object whose present record is this one. */
    static ExchangeRecords present(byte[] record) {
        ExchangeRecords x = holding(record);
        if (x.read() != 1) {
            throw new IllegalStateException("the sample is wrong");
        }
        return x;
    }

    static ExchangeRecords present(String... fields) {
        return present(record(fields));
    }

    /** An object with a new record without fields. */
    static ExchangeRecords blank() {
        ExchangeRecords x = new ExchangeRecords();
        x.leader(5, ' ');
        return x;
    }

    /** What write() writes, with the marks as in a field's text; "none" if it answers NONE. */
    static String written(ExchangeRecords x) {
        int total = x.write();
        if (total == ExchangeRecords.NONE) {
            return "none";
        }
        byte[] out = new byte[total];
        for (int i = 0; i < total; i++) {
            out[i] = x.octet(i);
        }
        return text(out);
    }

    static String text(byte[] bytes) {
        String text = new String(bytes, StandardCharsets.ISO_8859_1);
        return text.replace((char) 31, '$').replace((char) 30, '^').replace((char) 29, '!');
    }

    /** The bytes of the i-th subfield with a code; of a control field, its bytes. */
    static String subfield(ExchangeRecords x, int field, int i, int code) {
        StringBuilder text = new StringBuilder();
        for (int k = 0; k < 2000 && x.subfield(field, i, code, k) != ExchangeRecords.NONE; k++) {
            text.append((char) x.subfield(field, i, code, k));
        }
        return text.toString();
    }
}
