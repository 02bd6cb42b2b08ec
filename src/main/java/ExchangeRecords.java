import java.util.Arrays;

/**
 * Records in an exchange form of bytes, read one after the other with the least place of what is
 * wrong, asked for fields and subfields, built anew and written.
 */
public final class ExchangeRecords {
    /** None such. */
    public static final int NONE = -1;

    private static final int INPUT_MOST = 1500;
    private static final int FIELDS_MOST = 60;
    private static final int BYTES_MOST = 1200;
    private static final int TAG_MOST = 999;
    private static final int CONTROL_TAG_MOST = 9;

    private static final int RECORD_END = 29;
    private static final int FIELD_END = 30;
    private static final int SUBFIELD_START = 31;

    private static final int LEADER_SIZE = 24;
    private static final int TOTAL_PLACE = 0;
    private static final int TOTAL_LEAST = 26;
    private static final int BASE_PLACE = 12;
    private static final int BASE_LEAST = 25;
    private static final int LONG_DIGITS = 5;

    private static final int ROW_SIZE = 12;
    private static final int TAG_DIGITS = 3;
    private static final int LENGTH_DIGITS = 4;
    private static final int ROW_LENGTH_PLACE = 3;
    private static final int ROW_START_PLACE = 7;
    private static final int ROW_NUMBERS = 3;

    private static final int INDICATORS = 2;
    private static final int OTHER_FIELD_LEAST = 3;

    private final Input input;
    private final Output output;
    private final byte[] leaderBytes;
    private final Field[] fields;
    private final int[] rows;
    private int rowCount;
    private boolean present;
    private int fieldCount;

    public ExchangeRecords() {
        input = new Input();
        output = new Output();
        leaderBytes = new byte[LEADER_SIZE];
        fields = new Field[FIELDS_MOST];
        for (int i = 0; i < FIELDS_MOST; i++) {
            fields[i] = new Field();
        }
        rows = new int[FIELDS_MOST * ROW_NUMBERS];
        rowCount = 0;
        present = false;
        fieldCount = 0;
    }

    /** A byte comes behind the input's; it is lost if the input is full. */
    public void add(byte b) {
        input.append(b);
    }

    /** Reads the next record: 1, or 0 if it is not whole yet, or -1 less the place of what is wrong. */
    public int read() {
        if (input.left() < LEADER_SIZE) {
            return 0;
        }
        int wrong = input.wrongInTotal();
        if (wrong != NONE) {
            return refuse(wrong, input.left());
        }
        int total = input.number(TOTAL_PLACE, LONG_DIGITS);
        if (input.left() < total) {
            return 0;
        }
        wrong = input.wrongInRecord(total);
        if (wrong != NONE) {
            // Only the record's end itself lies at total - 1: without it L cannot be trusted.
            return refuse(wrong, wrong == total - 1 ? input.left() : total);
        }
        takeRecord();
        input.skip(total);
        return 1;
    }

    /** The number, from 1 on, of the i-th field with a tag; 0 if there is none. */
    public int field(int tag, int i) {
        int before = 0;
        for (int n = 0; n < fieldCount; n++) {
            if (fields[n].tag == tag) {
                if (before == i) {
                    return n + 1;
                }
                before++;
            }
        }
        return 0;
    }

    /** Indicator 0 or 1 of a field, or NONE. */
    public int indicator(int field, int which) {
        Field f = numbered(field);
        if (f == null || isControl(f.tag)) {
            return NONE;
        }
        if (which == 0) {
            return f.first;
        }
        return which == 1 ? f.second : NONE;
    }

    /** Byte k of the i-th subfield with a code, or of a control field, or NONE. */
    public int subfield(int field, int i, int code, int k) {
        Field f = numbered(field);
        if (f == null) {
            return NONE;
        }
        if (isControl(f.tag)) {
            return f.at(k);
        }
        int start = f.subfieldStart(code, i);
        if (start == NONE || k < 0 || k >= f.subfieldEnd(start) - start) {
            return NONE;
        }
        return f.at(start + k);
    }

    /** A number of row i of the directory read latest: 0 the tag, 1 the length, 2 the start. */
    public int directory(int i, int what) throws ArrayIndexOutOfBoundsException {
        if (i < 0 || i >= rowCount) {
            throw new ArrayIndexOutOfBoundsException("no such row of the directory");
        }
        if (what < 0 || what >= ROW_NUMBERS) {
            return NONE;
        }
        return rows[i * ROW_NUMBERS + what];
    }

    /** How many fields the present record has; NONE without one. */
    public int length() {
        return present ? fieldCount : NONE;
    }

    /** Changes a byte of the leader that may be any; without a record a new one is made first. */
    public boolean leader(int place, int v) {
        if (!isFree(place)) {
            return false;
        }
        if (!present) {
            present = true;
            fieldCount = 0;
            Arrays.fill(leaderBytes, (byte) ' ');
        }
        leaderBytes[place] = (byte) v;
        return true;
    }

    /** A new field at the end of the present record: its number, or 0. */
    public int put(int tag, int ind) {
        if (!present || tag < 0 || tag > TAG_MOST || fieldCount >= FIELDS_MOST) {
            return 0;
        }
        fields[fieldCount].begin(tag, (ind >> 8) & 255, ind & 255);
        fieldCount++;
        return fieldCount;
    }

    /** A byte more at the end of a field, in a new subfield if the last one has another code. */
    public void subfield2(int field, int code, int c) {
        Field f = numbered(field);
        int b = c & 255;
        if (f == null || isMark(b)) {
            return;
        }
        int low = code & 255;
        boolean opens = !isControl(f.tag) && f.lastCode() != low;
        if (opens && isMark(low)) {
            return;
        }
        if (heldBytes() + (opens ? 2 : 1) > BYTES_MOST) {
            return;
        }
        if (opens) {
            f.append(SUBFIELD_START);
            f.append(low);
        }
        f.append(b);
    }

    /** Writes the present record in the form: how many bytes, or NONE. */
    public int write() {
        if (!present || hasMarkAsIndicator()) {
            return NONE;
        }
        int base = BASE_LEAST + ROW_SIZE * fieldCount;
        int total = base + 1;
        for (int n = 0; n < fieldCount; n++) {
            total += fields[n].writtenSize();
        }
        output.begin(total);
        emitLeader(total, base);
        emitDirectory();
        for (int n = 0; n < fieldCount; n++) {
            emitField(fields[n]);
        }
        output.emit(RECORD_END);
        return total;
    }

    /** Byte i of what was written latest. */
    public byte octet(int i) throws ArrayIndexOutOfBoundsException {
        if (!output.has(i)) {
            throw new ArrayIndexOutOfBoundsException("no such byte was written");
        }
        return output.at(i);
    }

    private static boolean isMark(int b) {
        return b >= RECORD_END && b <= SUBFIELD_START;
    }

    private static boolean isDigit(int b) {
        return b >= '0' && b <= '9';
    }

    private static boolean isControl(int tag) {
        return tag <= CONTROL_TAG_MOST;
    }

    /** The byte that the form wants at a place of the leader whatever the record is, or NONE. */
    private static int fixedByte(int place) {
        switch (place) {
            case 10:
            case 11:
                return '2';
            case 20:
                return '4';
            case 21:
                return '5';
            default:
                return NONE;
        }
    }

    private static boolean isFree(int place) {
        boolean ofTotal = place < TOTAL_PLACE + LONG_DIGITS;
        boolean ofBase = place >= BASE_PLACE && place < BASE_PLACE + LONG_DIGITS;
        return !ofTotal && !ofBase && place < LEADER_SIZE && fixedByte(place) == NONE;
    }

    private Field numbered(int number) {
        return number < 1 || number > fieldCount ? null : fields[number - 1];
    }

    private int refuse(int wrong, int skipped) {
        present = false;
        fieldCount = 0;
        input.skip(skipped);
        return -1 - wrong;
    }

    /** Makes the record at the input's place, which is known to be right, the present one. */
    private void takeRecord() {
        for (int p = 0; p < LEADER_SIZE; p++) {
            leaderBytes[p] = (byte) input.at(p);
        }
        int base = input.number(BASE_PLACE, LONG_DIGITS);
        rowCount = Math.min((base - BASE_LEAST) / ROW_SIZE, FIELDS_MOST);
        for (int r = 0; r < rowCount; r++) {
            takeRow(r, base);
        }
        fieldCount = rowCount;
        present = true;
    }

    private void takeRow(int r, int base) {
        int row = LEADER_SIZE + ROW_SIZE * r;
        int tag = input.number(row, TAG_DIGITS);
        int length = input.number(row + ROW_LENGTH_PLACE, LENGTH_DIGITS);
        int start = input.number(row + ROW_START_PLACE, LONG_DIGITS);
        rows[r * ROW_NUMBERS] = tag;
        rows[r * ROW_NUMBERS + 1] = length;
        rows[r * ROW_NUMBERS + 2] = start;
        takeField(fields[r], tag, base + start, base + start + length - 1);
    }

    private void takeField(Field f, int tag, int from, int last) {
        int p = from;
        if (isControl(tag)) {
            f.begin(tag, 0, 0);
        } else {
            f.begin(tag, input.at(from), input.at(from + 1));
            p = from + INDICATORS;
        }
        for (; p < last; p++) {
            f.append(input.at(p));
        }
    }

    /** The bytes of all fields, with codes and indicators, but without what only the form adds. */
    private int heldBytes() {
        int held = 0;
        for (int n = 0; n < fieldCount; n++) {
            held += fields[n].heldBytes();
        }
        return held;
    }

    private boolean hasMarkAsIndicator() {
        for (int n = 0; n < fieldCount; n++) {
            Field f = fields[n];
            if (!isControl(f.tag) && (isMark(f.first) || isMark(f.second))) {
                return true;
            }
        }
        return false;
    }

    private void emitLeader(int total, int base) {
        output.emitDigits(total, LONG_DIGITS);
        emitLeaderBytes(TOTAL_PLACE + LONG_DIGITS, BASE_PLACE);
        output.emitDigits(base, LONG_DIGITS);
        emitLeaderBytes(BASE_PLACE + LONG_DIGITS, LEADER_SIZE);
    }

    private void emitLeaderBytes(int from, int end) {
        for (int p = from; p < end; p++) {
            int fixed = fixedByte(p);
            output.emit(fixed == NONE ? leaderBytes[p] : fixed);
        }
    }

    private void emitDirectory() {
        int start = 0;
        for (int n = 0; n < fieldCount; n++) {
            int size = fields[n].writtenSize();
            output.emitDigits(fields[n].tag, TAG_DIGITS);
            output.emitDigits(size, LENGTH_DIGITS);
            output.emitDigits(start, LONG_DIGITS);
            start += size;
        }
        output.emit(FIELD_END);
    }

    private void emitField(Field f) {
        if (!isControl(f.tag)) {
            output.emit(f.first);
            output.emit(f.second);
        }
        for (int i = 0; i < f.size; i++) {
            output.emit(f.at(i));
        }
        output.emit(FIELD_END);
    }

    /** The bytes that were added, and the place of the next record among them. */
    private static final class Input {
        private final byte[] bytes;
        private int size;
        private int place;

        Input() {
            bytes = new byte[INPUT_MOST];
            size = 0;
            place = 0;
        }

        void append(byte b) {
            if (size < INPUT_MOST) {
                bytes[size] = b;
                size++;
            }
        }

        int left() {
            return size - place;
        }

        void skip(int count) {
            place += count;
        }

        /** The byte at a place of the record, 0 .. 255; NONE, which no test takes, outside. */
        int at(int p) {
            return p < 0 || p >= size - place ? NONE : bytes[place + p] & 255;
        }

        /** The number that digits tell, which are known to be digits. */
        int number(int from, int digits) {
            int n = 0;
            for (int p = from; p < from + digits; p++) {
                n = n * 10 + at(p) - '0';
            }
            return n;
        }

        int wrongInTotal() {
            int wrong = wrongDigit(TOTAL_PLACE, LONG_DIGITS);
            if (wrong != NONE) {
                return wrong;
            }
            return number(TOTAL_PLACE, LONG_DIGITS) < TOTAL_LEAST ? TOTAL_PLACE : NONE;
        }

        /** The place of what is wrong in a record of which all bytes are there, or NONE. */
        int wrongInRecord(int total) {
            int wrong = wrongInLeader(total);
            if (wrong != NONE) {
                return wrong;
            }
            int base = number(BASE_PLACE, LONG_DIGITS);
            if (at(base - 1) != FIELD_END) {
                return base - 1;
            }
            if (at(total - 1) != RECORD_END) {
                return total - 1;
            }
            int count = (base - BASE_LEAST) / ROW_SIZE;
            if (count > FIELDS_MOST) {
                return LEADER_SIZE;
            }
            for (int r = 0; r < count && wrong == NONE; r++) {
                wrong = wrongInRow(LEADER_SIZE + ROW_SIZE * r, base, total);
            }
            return wrong;
        }

        private int wrongInLeader(int total) {
            for (int p = 0; p < LEADER_SIZE; p++) {
                int fixed = fixedByte(p);
                if (fixed != NONE && at(p) != fixed) {
                    return p;
                }
            }
            int wrong = wrongDigit(BASE_PLACE, LONG_DIGITS);
            if (wrong != NONE) {
                return wrong;
            }
            int base = number(BASE_PLACE, LONG_DIGITS);
            boolean fits = base >= BASE_LEAST && base <= total - 1 && (base - BASE_LEAST) % ROW_SIZE == 0;
            return fits ? NONE : BASE_PLACE;
        }

        private int wrongInRow(int row, int base, int total) {
            int wrong = wrongDigit(row, ROW_SIZE);
            if (wrong != NONE) {
                return wrong;
            }
            boolean control = isControl(number(row, TAG_DIGITS));
            int length = number(row + ROW_LENGTH_PLACE, LENGTH_DIGITS);
            int from = base + number(row + ROW_START_PLACE, LONG_DIGITS);
            int least = control ? 1 : OTHER_FIELD_LEAST;
            if (length < least || from + length > total - 1) {
                return row + ROW_LENGTH_PLACE;
            }
            int last = from + length - 1;
            return control ? wrongInControlField(from, last) : wrongInOtherField(from, last);
        }

        private int wrongInControlField(int from, int last) {
            int wrong = firstMark(from, last);
            return wrong != NONE ? wrong : wrongEnd(last);
        }

        private int wrongInOtherField(int from, int last) {
            int behind = from + INDICATORS;
            int wrong = firstMark(from, behind);
            if (wrong != NONE) {
                return wrong;
            }
            if (behind < last && at(behind) != SUBFIELD_START) {
                return behind;
            }
            for (int p = behind; p < last; p++) {
                // No indicator is 31 here, so a 31 before a byte makes that byte a code.
                boolean noStart = at(p - 1) == SUBFIELD_START || p + 1 == last;
                if (isMark(at(p)) && (at(p) != SUBFIELD_START || noStart)) {
                    return p;
                }
            }
            return wrongEnd(last);
        }

        private int wrongEnd(int last) {
            return at(last) == FIELD_END ? NONE : last;
        }

        private int wrongDigit(int from, int digits) {
            for (int p = from; p < from + digits; p++) {
                if (!isDigit(at(p))) {
                    return p;
                }
            }
            return NONE;
        }

        private int firstMark(int from, int end) {
            for (int p = from; p < end; p++) {
                if (isMark(at(p))) {
                    return p;
                }
            }
            return NONE;
        }
    }

    /** A field of the present record: its bytes as the form has them, without indicators and end. */
    private static final class Field {
        private static final int FIRST_ROOM = 16;

        private int tag;
        private int first;
        private int second;
        private byte[] bytes;
        private int size;
        private int subfields;

        Field() {
            bytes = new byte[FIRST_ROOM];
        }

        void begin(int newTag, int newFirst, int newSecond) {
            tag = newTag;
            first = newFirst;
            second = newSecond;
            size = 0;
            subfields = 0;
        }

        void append(int b) {
            if (size >= bytes.length) {
                bytes = Arrays.copyOf(bytes, size * 2);
            }
            bytes[size] = (byte) b;
            size++;
            if (b == SUBFIELD_START) {
                subfields++;
            }
        }

        int at(int i) {
            return i < 0 || i >= size ? NONE : bytes[i] & 255;
        }

        int indicatorCount() {
            return isControl(tag) ? 0 : INDICATORS;
        }

        int heldBytes() {
            return indicatorCount() + size - subfields;
        }

        int writtenSize() {
            return indicatorCount() + size + 1;
        }

        /** Where the bytes of the i-th subfield with a code begin, behind the code; or NONE. */
        int subfieldStart(int code, int i) {
            int before = 0;
            for (int p = 0; p + 1 < size; p++) {
                if (at(p) == SUBFIELD_START && at(p + 1) == code) {
                    if (before == i) {
                        return p + 2;
                    }
                    before++;
                }
            }
            return NONE;
        }

        int subfieldEnd(int start) {
            for (int p = start; p < size; p++) {
                if (at(p) == SUBFIELD_START) {
                    return p;
                }
            }
            return size;
        }

        int lastCode() {
            for (int p = size - 1; p >= 0; p--) {
                if (at(p) == SUBFIELD_START) {
                    return at(p + 1);
                }
            }
            return NONE;
        }
    }

    /** What was written latest. */
    private static final class Output {
        private static final int FIRST_ROOM = 256;

        private byte[] bytes;
        private int size;

        Output() {
            bytes = new byte[FIRST_ROOM];
            size = 0;
        }

        /** Empties it; room is only made anew when it lacks, and then twofold, so that it is seldom. */
        void begin(int total) {
            if (total > bytes.length) {
                bytes = new byte[Math.max(total, 2 * bytes.length)];
            }
            size = 0;
        }

        void emit(int b) {
            if (size < bytes.length) {
                bytes[size] = (byte) b;
                size++;
            }
        }

        void emitDigits(int number, int digits) {
            int rest = number;
            int from = size;
            for (int i = 0; i < digits; i++) {
                emit('0');
            }
            for (int p = size - 1; p >= from; p--) {
                bytes[p] = (byte) ('0' + rest % 10);
                rest /= 10;
            }
        }

        boolean has(int i) {
            return i >= 0 && i < size;
        }

        byte at(int i) {
            return has(i) ? bytes[i] : 0;
        }
    }
}
