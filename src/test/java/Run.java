import java.util.ArrayList;
import java.util.List;

/**
 * A run of calls, made again on a new object for every question: so no object sees more calls than
 * the document promises something for, and no question can spoil the answer of another one.
 */
final class Run {
    interface Step {
        void on(ExchangeRecords x);
    }

    interface Question {
        long of(ExchangeRecords x);
    }

    private static final int CALLS_MOST = 512;
    private static final int[] TAGS = {-1, 0, 1, 2, 5, 8, 9, 10, 11, 100, 245, 300, 500, 998, 999, 1000};
    private static final int[] CODES = {0, 28, 29, 30, 31, 32, 'a', 'b', 'c', 'z', 255};

    private final List<Step> steps;
    private final int callsMost;

    private Run(List<Step> steps, int callsMost) {
        this.steps = steps;
        this.callsMost = callsMost;
    }

    static Run start() {
        return new Run(new ArrayList<>(), CALLS_MOST);
    }

    /** For the bounds that 512 calls cannot reach: nothing is promised there, this program keeps them. */
    static Run beyond() {
        return new Run(new ArrayList<>(), Integer.MAX_VALUE);
    }

    static Run holding(byte[]... inputs) {
        return start().adding(inputs);
    }

    /** The present record is this one. */
    static Run present(byte[] record) {
        return holding(record).then(x -> x.read());
    }

    static Run present(String... fields) {
        return present(Sample.record(fields));
    }

    /** The present record is a new one, without fields. */
    static Run blank() {
        return start().then(x -> x.leader(5, ' '));
    }

    /** This run with one call more; this one itself stays as it is. */
    Run then(Step step) {
        List<Step> more = new ArrayList<>(steps);
        more.add(step);
        return new Run(more, callsMost);
    }

    Run adding(byte[]... inputs) {
        List<Step> more = new ArrayList<>(steps);
        for (byte[] input : inputs) {
            for (byte b : input) {
                more.add(x -> x.add(b));
            }
        }
        return new Run(more, callsMost);
    }

    Run reading() {
        return then(x -> x.read());
    }

    long answer(Question question) {
        if (steps.size() + 1 > callsMost) {
            throw new IllegalStateException("a test makes more than 512 calls");
        }
        ExchangeRecords x = new ExchangeRecords();
        for (Step step : steps) {
            step.on(x);
        }
        return question.of(x);
    }

    /** The answer, or the name of what is thrown. */
    String told(Question question) {
        return Check.told(() -> answer(question));
    }

    private static boolean isThrown(String told) {
        return told.startsWith("java.");
    }

    long read() {
        return answer(x -> x.read());
    }

    long length() {
        return answer(x -> x.length());
    }

    /** What write() writes, with the marks as in Sample; "none" if it answers NONE. */
    String written() {
        long total = answer(x -> x.write());
        return total == ExchangeRecords.NONE ? "none" : then(x -> x.write()).octets();
    }

    /** What was written latest, up to the byte that is not there; more than any form's bytes are not asked. */
    String octets() {
        StringBuilder text = new StringBuilder();
        for (int i = 0; i < 100000; i++) {
            int place = i;
            String octet = told(x -> x.octet(place));
            if (isThrown(octet)) {
                break;
            }
            text.append((char) (Integer.parseInt(octet) & 255));
        }
        return Sample.marked(text.toString());
    }

    /** The bytes of the i-th subfield with a code; of a control field, its bytes. */
    String subfield(int field, int i, int code) {
        StringBuilder text = new StringBuilder();
        for (int k = 0; k < 2000; k++) {
            int place = k;
            long b = answer(x -> x.subfield(field, i, code, place));
            if (b == ExchangeRecords.NONE) {
                break;
            }
            text.append((char) b);
        }
        return text.toString();
    }

    /** All that later calls show: what was refused leaves this picture as it was. */
    String picture() {
        StringBuilder text = new StringBuilder();
        long length = length();
        text.append("length ").append(length).append('\n');
        for (int n = 0; n <= length + 1; n++) {
            text.append(fieldPicture(n));
        }
        for (int tag : TAGS) {
            for (int i = -1; i < 4; i++) {
                int nth = i;
                text.append(answer(x -> x.field(tag, nth))).append(' ');
            }
        }
        text.append("\ndirectory ").append(directoryPicture());
        text.append("\nlatest ").append(octets());
        text.append("\nwritten ").append(written());
        text.append("\ninput ").append(inputPicture());
        return text.toString();
    }

    private String fieldPicture(int n) {
        StringBuilder text = new StringBuilder();
        text.append(n).append(": ").append(answer(x -> x.indicator(n, 0)));
        text.append(' ').append(answer(x -> x.indicator(n, 1)));
        for (int code : CODES) {
            for (int i = 0; i < 2; i++) {
                for (int k = 0; k < 3; k++) {
                    int nth = i;
                    int place = k;
                    text.append(' ').append(answer(x -> x.subfield(n, nth, code, place)));
                }
            }
        }
        return text.append('\n').toString();
    }

    String directoryPicture() {
        StringBuilder text = new StringBuilder();
        for (int i = 0; i < 61; i++) {
            int row = i;
            if (isThrown(told(x -> x.directory(row, 0)))) {
                break;
            }
            for (int w = 0; w < 3; w++) {
                int what = w;
                text.append(told(x -> x.directory(row, what))).append(w < 2 ? " " : ", ");
            }
        }
        return text.toString();
    }

    /** What is left of the input, and where what comes later stands in it. */
    private String inputPicture() {
        StringBuilder text = new StringBuilder();
        Run run = this;
        for (int i = 0; i < 4; i++) {
            text.append(run.read()).append(' ');
            run = run.reading();
            text.append(run.length()).append(", ");
        }
        Run later = adding(Sample.record("009:n"));
        for (int i = 0; i < 3; i++) {
            text.append(later.read()).append(' ');
            later = later.reading();
            text.append(later.length()).append(' ').append(later.answer(x -> x.field(9, 0))).append(", ");
        }
        return text.toString();
    }
}
