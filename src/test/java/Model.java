import java.util.ArrayList;
import java.util.List;

/** The document once more, as plainly as can be, with lists and texts: what ModelTest compares with. */
final class Model {
    private static final class Sub {
        final int code;
        final List<Integer> bytes = new ArrayList<>();

        Sub(int code) {
            this.code = code;
        }
    }

    private static final class Item {
        final int tag;
        final int[] indicators = new int[2];
        final List<Integer> plain = new ArrayList<>();
        final List<Sub> subs = new ArrayList<>();

        Item(int tag) {
            this.tag = tag;
        }

        boolean control() {
            return tag < 10;
        }

        int held() {
            int held = control() ? plain.size() : 2;
            for (Sub sub : subs) {
                held += 1 + sub.bytes.size();
            }
            return held;
        }

        String form() {
            StringBuilder form = new StringBuilder();
            if (!control()) {
                form.append((char) indicators[0]).append((char) indicators[1]);
            }
            plain.forEach(b -> form.append((char) (int) b));
            for (Sub sub : subs) {
                form.append((char) 31).append((char) sub.code);
                sub.bytes.forEach(b -> form.append((char) (int) b));
            }
            return form.append((char) 30).toString();
        }
    }

    /** Thrown where the first wrong thing is met. */
    private static final class Wrong extends RuntimeException {
        private static final long serialVersionUID = 1L;
        final int place;

        Wrong(int place) {
            super(null, null, false, false);
            this.place = place;
        }
    }

    private String input = "";
    private int added;
    private List<Item> record;
    private char[] leader = new char[24];
    private List<int[]> directory = new ArrayList<>();
    private String written = "";

    void add(int b) {
        if (added < 1500) {
            input += (char) (b & 255);
            added++;
        }
    }

    int read() {
        if (input.length() < 24) {
            return 0;
        }
        int skipped = input.length();
        try {
            for (int p = 0; p < 5; p++) {
                demand(Character.isDigit(input.charAt(p)), p);
            }
            int total = Integer.parseInt(input.substring(0, 5));
            demand(total >= 26, 0);
            if (input.length() < total) {
                return 0;
            }
            skipped = total;
            String bytes = input.substring(0, total);
            leaderAndBase(bytes);
            if (bytes.charAt(total - 1) != 29) {
                skipped = input.length();
                throw new Wrong(total - 1);
            }
            take(bytes);
            input = input.substring(total);
            return 1;
        } catch (Wrong wrong) {
            record = null;
            input = input.substring(skipped);
            return -1 - wrong.place;
        }
    }

    private static void demand(boolean right, int place) {
        if (!right) {
            throw new Wrong(place);
        }
    }

    private static void leaderAndBase(String bytes) {
        demand(bytes.charAt(10) == '2', 10);
        demand(bytes.charAt(11) == '2', 11);
        demand(bytes.charAt(20) == '4', 20);
        demand(bytes.charAt(21) == '5', 21);
        for (int p = 12; p <= 16; p++) {
            demand(Character.isDigit(bytes.charAt(p)), p);
        }
        int base = Integer.parseInt(bytes.substring(12, 17));
        demand(base >= 25, 12);
        demand(base <= bytes.length() - 1, 12);
        demand((base - 25) % 12 == 0, 12);
        demand(bytes.charAt(base - 1) == 30, base - 1);
    }

    private void take(String bytes) {
        int base = Integer.parseInt(bytes.substring(12, 17));
        demand((base - 25) / 12 <= 60, 24);
        List<Item> items = new ArrayList<>();
        List<int[]> rows = new ArrayList<>();
        for (int row = 24; row < base - 1; row += 12) {
            for (int p = row; p < row + 12; p++) {
                demand(Character.isDigit(bytes.charAt(p)), p);
            }
            int tag = Integer.parseInt(bytes.substring(row, row + 3));
            int length = Integer.parseInt(bytes.substring(row + 3, row + 7));
            int start = Integer.parseInt(bytes.substring(row + 7, row + 12));
            demand(length != 0, row + 3);
            demand(base + start + length <= bytes.length() - 1, row + 3);
            demand(tag < 10 || length >= 3, row + 3);
            rows.add(new int[] {tag, length, start});
            items.add(item(tag, bytes.substring(base + start, base + start + length), base + start));
        }
        record = items;
        directory = rows;
        leader = bytes.substring(0, 24).toCharArray();
    }

    /** Goes through a field with a state: what the next byte is. */
    private static Item item(int tag, String field, int place) {
        Item item = new Item(tag);
        String state = tag < 10 ? "plain" : "first";
        Sub sub = null;
        for (int i = 0; i < field.length() - 1; i++) {
            int b = field.charAt(i);
            demand(b != 29 && b != 30, place + i);
            boolean beforeLast = i == field.length() - 2;
            switch (state) {
                case "plain" -> {
                    demand(b != 31, place + i);
                    item.plain.add(b);
                }
                case "first", "second" -> {
                    demand(b != 31, place + i);
                    item.indicators[state.equals("first") ? 0 : 1] = b;
                    state = state.equals("first") ? "second" : "start";
                }
                case "start" -> {
                    demand(b == 31 && !beforeLast, place + i);
                    state = "code";
                }
                case "code" -> {
                    demand(b != 31, place + i);
                    sub = new Sub(b);
                    item.subs.add(sub);
                    state = "byte";
                }
                default -> {
                    demand(b != 31 || !beforeLast, place + i);
                    if (b == 31) {
                        state = "code";
                    } else {
                        sub.bytes.add(b);
                    }
                }
            }
        }
        demand(field.charAt(field.length() - 1) == 30, place + field.length() - 1);
        return item;
    }

    private Item numbered(int number) {
        return record == null || number < 1 || number > record.size() ? null : record.get(number - 1);
    }

    private static int nth(List<Integer> bytes, int k) {
        return k < 0 || k >= bytes.size() ? -1 : bytes.get(k);
    }

    int field(int tag, int i) {
        List<Integer> numbers = new ArrayList<>();
        for (int n = 1; numbered(n) != null; n++) {
            if (numbered(n).tag == tag) {
                numbers.add(n);
            }
        }
        return Math.max(0, nth(numbers, i));
    }

    int indicator(int field, int which) {
        Item item = numbered(field);
        return item == null || item.control() || which < 0 || which > 1 ? -1 : item.indicators[which];
    }

    int subfield(int field, int i, int code, int k) {
        Item item = numbered(field);
        if (item == null) {
            return -1;
        }
        if (item.control()) {
            return nth(item.plain, k);
        }
        List<Sub> subs = new ArrayList<>(item.subs);
        subs.removeIf(sub -> sub.code != code);
        return i < 0 || i >= subs.size() ? -1 : nth(subs.get(i).bytes, k);
    }

    /** NONE of a row that is not there is told as null. */
    Integer directory(int i, int what) {
        if (i < 0 || i >= directory.size()) {
            return null;
        }
        return what < 0 || what > 2 ? -1 : directory.get(i)[what];
    }

    int length() {
        return record == null ? -1 : record.size();
    }

    boolean leader(int place, int v) {
        if (!List.of(5, 6, 7, 8, 9, 17, 18, 19, 22, 23).contains(place)) {
            return false;
        }
        if (record == null) {
            record = new ArrayList<>();
            leader = " ".repeat(24).toCharArray();
        }
        leader[place] = (char) (v & 255);
        return true;
    }

    int put(int tag, int ind) {
        if (record == null || tag < 0 || tag > 999 || record.size() == 60) {
            return 0;
        }
        Item item = new Item(tag);
        item.indicators[0] = ind >>> 8 & 255;
        item.indicators[1] = ind & 255;
        record.add(item);
        return record.size();
    }

    void subfield2(int field, int code, int c) {
        Item item = numbered(field);
        int b = c & 255;
        int low = code & 255;
        if (item == null || b >= 29 && b <= 31) {
            return;
        }
        int held = 0;
        for (Item one : record) {
            held += one.held();
        }
        if (item.control()) {
            if (held + 1 <= 1200) {
                item.plain.add(b);
            }
            return;
        }
        Sub last = item.subs.isEmpty() ? null : item.subs.get(item.subs.size() - 1);
        if (last != null && last.code == low) {
            if (held + 1 <= 1200) {
                last.bytes.add(b);
            }
        } else if ((low < 29 || low > 31) && held + 2 <= 1200) {
            Sub sub = new Sub(low);
            sub.bytes.add(b);
            item.subs.add(sub);
        }
    }

    int write() {
        if (record == null) {
            return -1;
        }
        StringBuilder rows = new StringBuilder();
        StringBuilder data = new StringBuilder();
        for (Item item : record) {
            for (int b : item.indicators) {
                if (!item.control() && b >= 29 && b <= 31) {
                    return -1;
                }
            }
            String form = item.form();
            rows.append(String.format("%03d%04d%05d", item.tag, form.length(), data.length()));
            data.append(form);
        }
        int base = 24 + rows.length() + 1;
        int total = base + data.length() + 1;
        String own = new String(leader);
        written = String.format("%05d", total) + own.substring(5, 10) + "22" + String.format("%05d", base)
                + own.substring(17, 20) + "45" + own.substring(22) + rows + (char) 30 + data + (char) 29;
        return written.length();
    }

    Integer octet(int i) {
        return i < 0 || i >= written.length() ? null : (int) (byte) written.charAt(i);
    }
}
