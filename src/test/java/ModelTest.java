import java.util.Random;

/** Runs of calls, drawn from fixed seeds, on the class and on Model: each answer must be the same. */
public final class ModelTest {
    private static final int RUNS = 6000;
    private static final int LONG_RUNS = 60;
    private static final int CALLS = 512;
    private static final int LONG_CALLS = 4000;
    private static final int[] EDGES = {
        -1, 0, 1, 2, 3, 9, 10, 28, 29, 30, 31, 32, 60, 61, 97, 98, 255, 256, 353, 999, 1000,
        Integer.MAX_VALUE, Integer.MIN_VALUE
    };

    private static final Check CHECK = new Check("ModelTest");
    private static final String[] KINDS = {"read 1", "read 0", "read wrong", "write", "write none"};
    private static final int[] SEEN = new int[KINDS.length];

    private final Random random;
    private final ExchangeRecords x = new ExchangeRecords();
    private final Model model = new Model();
    private int calls;

    private ModelTest(long seed) {
        random = new Random(seed);
    }

    public static void main(String[] args) {
        for (int run = 0; run < RUNS; run++) {
            new ModelTest(run).run(CALLS);
        }
        // Beyond 512 calls nothing is promised, but the program still must not throw by itself.
        for (int run = 0; run < LONG_RUNS; run++) {
            new ModelTest(-1 - run).run(LONG_CALLS);
        }
        for (int kind = 0; kind < KINDS.length; kind++) {
            CHECK.due("often enough: " + KINDS[kind], SEEN[kind] > 500, true);
        }
        CHECK.end();
    }

    private void run(int most) {
        while (calls < most) {
            switch (random.nextInt(8)) {
                case 0, 1 -> addRecord();
                case 2, 3 -> build();
                case 4 -> writeAndLook();
                case 5 -> read();
                default -> ask();
            }
        }
    }

    private void due(String call, long got, long want) {
        calls++;
        CHECK.due(call, got, want);
    }

    private int below(int bound) {
        return random.nextInt(bound);
    }

    /** Mostly something near, now and then an edge. */
    private int near(int bound) {
        return below(8) == 0 ? EDGES[below(EDGES.length)] : below(bound);
    }

    private int tag() {
        int[] tags = {0, 1, 9, 10, 100, 245, 999};
        return tags[below(tags.length)];
    }

    private int code() {
        return below(6) == 0 ? near(256) : 'a' + below(3);
    }

    private String fieldText(int tag) {
        StringBuilder text = new StringBuilder();
        if (tag >= 10) {
            text.append((char) ('0' + below(3))).append(' ');
            for (int i = below(4); i > 0; i--) {
                text.append('$').append((char) ('a' + below(3)));
                text.append("xyz\u00e9".substring(below(5)));
            }
        } else {
            text.append("wxyz".substring(below(5)));
        }
        return text.toString();
    }

    private byte[] someRecord() {
        int count = below(5);
        if (below(12) == 0) {
            String tag = String.format("%03d", tag());
            int size = below(60);
            String text = tag.compareTo("010") < 0 ? "c".repeat(size) : "12$a" + "s".repeat(size);
            return Sample.shared(below(24), tag, text);
        }
        String[] fields = new String[count];
        for (int i = 0; i < count; i++) {
            int tag = tag();
            fields[i] = String.format("%03d:", tag) + fieldText(tag);
        }
        return Sample.record(fields);
    }

    private byte[] spoilt(byte[] record) {
        int[] bytes = {29, 30, 31, '0', '1', '2', '3', '9', 'a', ' ', '/', ':', 255};
        byte[] changed = record.clone();
        for (int i = 1 + below(2); i > 0; i--) {
            // Few in the length itself: those throw the whole input away.
            int place = below(6) == 0 ? below(5) : 5 + below(changed.length - 5);
            changed[place] = (byte) bytes[below(bytes.length)];
        }
        return changed;
    }

    private void addRecord() {
        byte[] record = someRecord();
        byte[] bytes = below(5) < 2 ? record : spoilt(record);
        for (byte b : bytes) {
            if (below(200) == 0) {
                read();
            }
            x.add(b);
            model.add(b);
            calls++;
        }
        read();
    }

    private void read() {
        int got = x.read();
        SEEN[got == 1 ? 0 : got == 0 ? 1 : 2]++;
        due("read", got, model.read());
        due("length", x.length(), model.length());
    }

    private void build() {
        if (below(4) == 0) {
            int place = near(26);
            int v = near(256);
            due("leader", x.leader(place, v) ? 1 : 0, model.leader(place, v) ? 1 : 0);
        }
        for (int i = below(8) == 0 ? 30 : below(3); i > 0; i--) {
            int tag = below(8) == 0 ? near(1000) : tag();
            int ind = below(30) == 0 ? near(70000) : (32 + below(90)) << 8 | (32 + below(90));
            due("put", x.put(tag, ind), model.put(tag, ind));
        }
        for (int i = below(20); i > 0; i--) {
            int field = near(6);
            int code = code();
            int c = near(256);
            x.subfield2(field, code, c);
            model.subfield2(field, code, c);
            calls++;
        }
    }

    private void ask() {
        int field = near(7);
        int i = near(3);
        int k = near(6);
        int code = code();
        due("subfield", x.subfield(field, i, code, k), model.subfield(field, i, code, k));
        due("indicator", x.indicator(field, i), model.indicator(field, i));
        int tag = tag();
        due("field", x.field(tag, i), model.field(tag, i));
        int row = near(5);
        int what = near(3);
        Integer want = model.directory(row, what);
        if (want == null) {
            calls++;
            CHECK.dueThrow("directory", () -> x.directory(row, what));
        } else {
            due("directory", x.directory(row, what), want);
        }
    }

    private void writeAndLook() {
        int total = x.write();
        SEEN[total == -1 ? 4 : 3]++;
        due("write", total, model.write());
        for (int n = 0; n < 12; n++) {
            octet(n < 6 ? below(5) + 20 * n : near(Math.max(total, 1) + 2));
        }
        // More than the calls of a run, but an octet changes nothing.
        for (int i = 0; i < total; i++) {
            CHECK.due("octet " + i, x.octet(i), model.octet(i));
        }
    }

    private void octet(int i) {
        Integer want = model.octet(i);
        if (want == null) {
            calls++;
            CHECK.dueThrow("octet", () -> x.octet(i));
        } else {
            due("octet", x.octet(i), want);
        }
    }
}
