import java.nio.charset.StandardCharsets;

/** Records for the tests. In a field's text '$' stands for byte 31, '^' for 30, '!' for 29. */
final class Sample {
    static final String LEADER = "00000nam a2200000 a 4500";

    /**
     * What most tests ask: 87 bytes, the directory's rows at 24, 36 and 48, BASE 61, the fields at 61,
     * 65 and 80.
     */
    static final byte[] BOOK = record("001:id7", "245:10$aTitle$bsub", "245:  $aX");

    private Sample() {
    }

    static byte[] bytes(String text) {
        String bare = text.replace('$', (char) 31).replace('^', (char) 30).replace('!', (char) 29);
        return bare.getBytes(StandardCharsets.ISO_8859_1);
    }

    static String text(byte[] bytes) {
        return marked(new String(bytes, StandardCharsets.ISO_8859_1));
    }

    static String marked(String text) {
        return text.replace((char) 31, '$').replace((char) 30, '^').replace((char) 29, '!');
    }

    /** A record of fields, each told as "tag:text", the text without its end. */
    static byte[] record(String... fields) {
        StringBuilder rows = new StringBuilder();
        StringBuilder data = new StringBuilder();
        for (String field : fields) {
            String text = field.substring(4) + "^";
            rows.append(row(field.substring(0, 3), text.length(), data.length()));
            data.append(text);
        }
        return framed(rows.toString(), data.toString());
    }

    /** A record in which each of the fields has the same bytes. */
    static byte[] shared(int count, String tag, String text) {
        return framed(row(tag, text.length() + 1, 0).repeat(count), text + "^");
    }

    static String row(String tag, int length, int start) {
        return tag + String.format("%04d%05d", length, start);
    }

    /** A record with a directory and the bytes from BASE on, but for the record's end. */
    static byte[] framed(String rows, String data) {
        int base = 25 + rows.length();
        int total = base + data.length() + 1;
        String leader = String.format("%05d", total) + LEADER.substring(5, 12)
                + String.format("%05d", base) + LEADER.substring(17);
        return bytes(leader + rows + "^" + data + "!");
    }

    static byte[] with(byte[] record, int place, int b) {
        byte[] changed = record.clone();
        changed[place] = (byte) b;
        return changed;
    }

    /** Digits or other characters over a record's own from a place on. */
    static byte[] with(byte[] record, int place, String text) {
        byte[] changed = record.clone();
        byte[] over = bytes(text);
        System.arraycopy(over, 0, changed, place, over.length);
        return changed;
    }

    static byte[] firstOf(byte[] bytes, int count) {
        return java.util.Arrays.copyOf(bytes, count);
    }

    static byte[] behindFirst(byte[] bytes, int count) {
        return java.util.Arrays.copyOfRange(bytes, count, bytes.length);
    }
}
