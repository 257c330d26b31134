/** One object and the calls on it, each answer held against the one that is due, for one sentence of the document. */
final class Run {
    private static final int CALLS = 512;

    private final Answers answers;
    private final String sentence;
    private final RunBitmaps object = new RunBitmaps();
    private int calls = 0;

    Run(Answers answers, String sentence) {
        this.answers = answers;
        this.sentence = sentence;
    }

    /** An answer behind the last call that the document speaks of would test nothing. */
    private void due(String call, int got, int want) {
        calls++;
        if (calls > CALLS) {
            throw new IllegalStateException(sentence + ": more calls than an object is used for");
        }
        answers.due(sentence + ", call " + calls + ", " + call, got, want);
    }

    int callsLeft() {
        return CALLS - calls;
    }

    void append(int a, int b, int many, int want) {
        due("append(" + a + ", " + b + ", " + many + ")", object.append(a, b, many), want);
    }

    void push(int column, int value, int want) {
        due("push(" + column + ", " + value + ")", object.push(column, value), want);
    }

    void copy(int want) {
        due("copy()", object.copy(), want);
    }

    void join(int op, int want) {
        due("join(" + op + ")", object.join(op), want);
    }

    void not(int want) {
        due("not()", object.not(), want);
    }

    void count(int want) {
        due("count()", object.count(), want);
    }

    void after(int row, int want) {
        due("after(" + row + ")", object.after(row), want);
    }

    void words(int want) {
        due("words()", object.words(), want);
    }

    void word(int i, int want) {
        due("word(" + i + ")", object.word(i), want);
    }

    void pop(int want) {
        due("pop()", object.pop(), want);
    }

    void room(int want) {
        due("room()", object.room(), want);
    }

    void stackRoom(int want) {
        due("stackRoom()", object.stackRoom(), want);
    }

    void rows(int want) {
        due("rows()", object.rows(), want);
    }

    /** The top set, whole: its words, and that there is none behind them. */
    void top(int... want) {
        words(want.length);
        for (int i = 0; i < want.length; i++) {
            word(i, want[i]);
        }
        word(want.length, 0);
    }

    /** The set of a value, whole, looked at on an empty stack. */
    void set(int column, int value, int... want) {
        push(column, value, 1);
        top(want);
        pop(0);
    }

    void pushTimes(int times, int column, int value, int wantFirst) {
        for (int i = 0; i < times; i++) {
            push(column, value, wantFirst + i);
        }
    }

    /** 247 appends that come to 15253 rows and 1998 words; the last group has one row, with value 1 in both columns. */
    void appendCrowd() {
        append(1, 1, 1, 1);
        for (int i = 0; i < 246; i++) {
            append(i % 2, i % 2, 62, 62 * i + 63);
        }
    }

    /**
     * 428 appends that come to 13238 rows: in column 0 the set of 0 has 428 words, that of 1 has 427, all others one;
     * in column 1 the set of 0 has two, all others one. The last group has one row.
     */
    void appendStripes() {
        for (int i = 0; i < 427; i++) {
            append(i % 2, 0, 31, 31 * i + 31);
        }
        append(0, 0, 1, 13238);
    }

    /** What this object tells of the set of a value, and another one too, from a word on, as far as its calls go. */
    void sameSet(Run other, int column, int value, int firstWord) {
        rows(other.object.rows());
        room(other.object.room());
        push(column, value, other.object.push(column, value));
        count(other.object.count());
        int words = other.object.words();
        words(words);
        for (int i = firstWord; i < words && callsLeft() > 10; i++) {
            word(i, other.object.word(i));
        }
    }
}
