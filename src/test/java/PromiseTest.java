/** One part for each promise: ordinary inputs, the edges that the document names, wrong inputs. */
public final class PromiseTest {
    private static final int BAD = RunBitmaps.BAD;
    private static final int BUSY = RunBitmaps.BUSY;
    private static final int FULL = RunBitmaps.FULL;
    private static final int LACKS = RunBitmaps.LACKS;
    private static final int LEAST = Integer.MIN_VALUE;
    private static final int MOST = Integer.MAX_VALUE;

    private final Answers answers = new Answers();

    public static void main(String[] args) {
        PromiseTest test = new PromiseTest();
        test.newObject();
        test.append();
        test.appendWords();
        test.appendUpToFull();
        test.appendThatShrinksLate();
        test.push();
        test.copy();
        test.stackFullOfWords();
        test.join();
        test.joinOfFills();
        test.not();
        test.count();
        test.after();
        test.words();
        test.word();
        test.pop();
        test.room();
        test.stackRoom();
        test.rows();
        test.answers.end();
    }

    private void due(String what, int got, int want) {
        answers.due(what, got, want);
    }

    /** The top set, whole: its words, and that there is none before and behind them. */
    private void dueTop(String what, RunBitmaps x, int... words) {
        due(what + ", words", x.words(), words.length);
        for (int i = 0; i < words.length; i++) {
            due(what + ", word " + i, x.word(i), words[i]);
        }
        due(what + ", word before", x.word(-1), 0);
        due(what + ", word behind", x.word(words.length), 0);
    }

    /** Rows 0..9 with 1, 10..39 with 2, 40..132 with 1, in column 0; column 1 has 7 in all. */
    private static RunBitmaps threeRuns() {
        RunBitmaps x = new RunBitmaps();
        x.append(1, 7, 10);
        x.append(2, 7, 30);
        x.append(1, 7, 93);
        return x;
    }

    private void newObject() {
        RunBitmaps x = new RunBitmaps();
        due("1 rows", x.rows(), 0);
        due("1 room", x.room(), 0);
        due("1 stackRoom", x.stackRoom(), 0);
        due("1 pop", x.pop(), LACKS);
        due("1 words", x.words(), -1);
        RunBitmaps other = new RunBitmaps();
        x.append(0, 0, 5);
        x.push(0, 0);
        due("1 other rows", other.rows(), 0);
        due("1 other pop", other.pop(), LACKS);
    }

    private void append() {
        RunBitmaps x = new RunBitmaps();
        int[] wrong = {LEAST, -1, 16, MOST};
        for (int value : wrong) {
            due("2 a = " + value, x.append(value, 0, 1), BAD);
            due("2 b = " + value, x.append(0, value, 1), BAD);
        }
        int[] wrongMany = {LEAST, -1, 0, 1000001, MOST};
        for (int many : wrongMany) {
            due("2 many = " + many, x.append(0, 0, many), BAD);
        }
        due("2 nothing came", x.rows(), 0);
        due("2 least", x.append(0, 15, 1), 1);
        due("2 more", x.append(15, 0, 2), 3);
        due("2 many too many rows", x.append(0, 0, 1000000), FULL);
        due("2 one too many", x.append(0, 0, 999998), FULL);
        due("2 rows as before", x.rows(), 3);
        x.push(0, 15);
        due("2 busy", x.append(0, 0, 1), BUSY);
        due("2 busy goes before full", x.append(0, 0, 1000000), BUSY);
        due("2 bad goes before busy", x.append(16, 0, 1), BAD);
        due("2 bad many goes before busy", x.append(0, 0, 0), BAD);
        x.pop();
        due("2 as many as there may be", x.append(0, 0, 999997), 1000000);
        due("2 not one more", x.append(0, 0, 1), FULL);
        due("2 bad goes before full", x.append(0, -1, 1), BAD);
        RunBitmaps y = new RunBitmaps();
        due("2 all at once", y.append(3, 3, 1000000), 1000000);
    }

    private void appendWords() {
        RunBitmaps x = new RunBitmaps();
        x.append(0, 0, 30);
        x.push(0, 0);
        dueTop("2 group of 30", x, 0x3FFFFFFF);
        x.pop();
        x.append(0, 1, 1);
        x.push(0, 0);
        dueTop("2 group of 31", x, -3);
        x.pop();
        x.append(0, 1, 30);
        x.push(0, 0);
        dueTop("2 behind a full one", x, -3, 0x3FFFFFFF);
        x.pop();
        x.append(0, 1, 32);
        x.push(0, 0);
        dueTop("2 words grow together", x, -7);
        x.push(1, 0);
        dueTop("2 value of no new rows", x, 0x3FFFFFFF, -4);
        x.push(1, 2);
        dueTop("2 value of no rows", x, -6);
        x.pop();
        x.pop();
        x.pop();
        x.append(4, 2, 2);
        x.append(5, 2, 91);
        x.push(0, 4);
        dueTop("2 literal between fills", x, -6, 3, -4);
        x.push(0, 5);
        dueTop("2 an empty fill is split", x, -6, 0x7FFFFFFC, -5);
        x.push(0, 0);
        dueTop("2 full and then empty", x, -7, -6);
    }

    /** Appends of 62 rows that begin at row 1 of a group: each takes a literal, a fill, and one row of a group. */
    private static RunBitmaps crowd(int appends, boolean bothColumns) {
        RunBitmaps x = new RunBitmaps();
        x.append(1, bothColumns ? 1 : 0, 1);
        for (int i = 0; i < appends; i++) {
            x.append(i % 2, bothColumns ? i % 2 : 0, 62);
        }
        return x;
    }

    private void appendUpToFull() {
        RunBitmaps x = new RunBitmaps();
        int rows = 0;
        for (int i = 0; i < 246; i++) {
            x.append(0, 0, 1);
            rows = x.append(1, 1, 61);
        }
        due("2 rows", rows, 62 * 246);
        due("2 words below the limit", x.room(), 28 + 8 * 246);
        due("2 six words more", x.append(2, 2, 63), FULL);
        due("2 up to the limit", x.append(0, 0, 1), rows + 1);
        due("2 the limit", x.room(), 2000);
        due("2 words beyond it", x.append(2, 0, 1), FULL);
        due("2 words far beyond it", x.append(15, 15, 900000), FULL);
        due("2 room as before", x.room(), 2000);
        due("2 rows as before", x.rows(), rows + 1);
        x.push(0, 2);
        dueTop("2 set as before", x, -2 * (2 * 246 + 1));
        x.pop();
        due("2 at the limit, no new words", x.append(0, 0, 30), rows + 31);
        due("2 still the limit", x.room(), 2000);
        x.push(0, 0);
        due("2 last word", x.word(x.words() - 1), -3);
    }

    private void appendThatShrinksLate() {
        RunBitmaps x = new RunBitmaps();
        for (int i = 0; i < 4; i++) {
            x.append(2 + i, 2, 31);
        }
        x.append(1, 1, 1);
        for (int i = 0; i < 244; i++) {
            x.append(i % 2, i % 2, 62);
        }
        due("2 crowd", x.append(1, 15, 91), 15344);
        due("2 crowded", x.room(), 1998);
        due("2 three words come before one goes", x.append(0, 15, 32), 15376);
        due("2 crowded to the limit", x.room(), 2000);
    }

    private void push() {
        RunBitmaps x = threeRuns();
        int[] wrongColumn = {LEAST, -1, 2, MOST};
        for (int column : wrongColumn) {
            due("3 column " + column, x.push(column, 0), BAD);
        }
        int[] wrongValue = {LEAST, -1, 16, MOST};
        for (int value : wrongValue) {
            due("3 value " + value, x.push(0, value), BAD);
            due("3 value " + value, x.push(1, value), BAD);
        }
        due("3 nothing came", x.words(), -1);
        due("3 first", x.push(0, 1), 1);
        dueTop("3 column 0, 1", x, 0x3FF, 0x7FFFFE00, -5, 0x1FF);
        due("3 second", x.push(0, 2), 2);
        dueTop("3 column 0, 2", x, 0x7FFFFC00, 0x1FF, -6);
        due("3 third", x.push(1, 7), 3);
        dueTop("3 column 1, 7", x, -9, 0x1FF);
        due("3 fourth", x.push(1, 1), 4);
        dueTop("3 column 1, 1", x, -10);
        due("3 edge of values", x.push(0, 15), 5);
        for (int sets = 6; sets <= 12; sets++) {
            due("3 set " + sets, x.push(1, 0), sets);
        }
        due("3 one more", x.push(0, 0), FULL);
        due("3 bad goes before full", x.push(0, 16), BAD);
        due("3 pop", x.pop(), 11);
        due("3 twelfth again", x.push(0, 2), 12);
        RunBitmaps none = new RunBitmaps();
        due("3 without rows", none.push(0, 0), 1);
        dueTop("3 without rows", none);
    }

    private void copy() {
        RunBitmaps x = threeRuns();
        due("4 none", x.copy(), LACKS);
        x.push(0, 2);
        due("4 once more", x.copy(), 2);
        dueTop("4 copy", x, 0x7FFFFC00, 0x1FF, -6);
        x.not();
        x.pop();
        dueTop("4 the first is itself", x, 0x7FFFFC00, 0x1FF, -6);
        for (int sets = 2; sets <= 12; sets++) {
            due("4 copy " + sets, x.copy(), sets);
        }
        due("4 full", x.copy(), FULL);
        due("4 as before", x.stackRoom(), 36);
    }

    private void stackFullOfWords() {
        RunBitmaps x = crowd(374, false);
        for (int sets = 1; sets <= 4; sets++) {
            due("3 big set " + sets, x.push(0, 1), sets);
        }
        due("13 big sets", x.stackRoom(), 4 * 749);
        due("3 words do not fit", x.push(0, 1), FULL);
        due("4 words do not fit", x.copy(), FULL);
        due("13 as before", x.stackRoom(), 2996);
        due("3 small set", x.push(0, 5), 5);
        for (int sets = 6; sets <= 8; sets++) {
            due("4 small set " + sets, x.copy(), sets);
        }
        due("13 the limit", x.stackRoom(), 3000);
        due("3 beyond it", x.push(0, 5), FULL);
        due("4 beyond it", x.copy(), FULL);
        due("6 beyond it", x.not(), FULL);
        dueTop("6 nothing changed", x, -2 * 749);
        due("7 nothing changed", x.count(), 0);
        due("13 nothing changed", x.stackRoom(), 3000);
        due("5 at the limit", x.join(1), 7);
        due("13 a word less", x.stackRoom(), 2999);
        due("6 up to the limit", x.not(), 7);
        dueTop("6 up to the limit", x, -2 * 748 - 1, 1);
        due("13 the limit again", x.stackRoom(), 3000);
        due("6 back", x.not(), 7);
        due("13 a word less again", x.stackRoom(), 2999);
        due("3 a word fits", x.push(0, 5), 8);
        due("4 a word does not", x.copy(), FULL);
        for (int sets = 7; sets >= 4; sets--) {
            due("5 big joins", x.join(1), sets);
        }
        dueFirst749(x);
        due("5 of itself", x.join(3), 3);
        dueTop("5 of itself", x, -2 * 749);
    }

    private void dueFirst749(RunBitmaps x) {
        due("9 big set", x.words(), 749);
        due("10 big set, first", x.word(0), 1);
        due("10 big set, second", x.word(1), -2);
        due("10 big set, last", x.word(748), 1);
        due("10 big set, behind", x.word(749), 0);
    }

    /** Four rows, one for each way of lying in two sets, over and over; lower is 1 in column 0, top 1 in column 1. */
    private static RunBitmaps fourWays(int times) {
        RunBitmaps x = new RunBitmaps();
        for (int i = 0; i < times; i++) {
            x.append(0, 0, 1);
            x.append(1, 0, 1);
            x.append(0, 1, 1);
            x.append(1, 1, 1);
        }
        x.push(1, 5);
        x.push(0, 1);
        x.push(1, 1);
        return x;
    }

    private void join() {
        int[] due = {0x8, 0xE, 0x2, 0x6};
        for (int op = 0; op < 4; op++) {
            RunBitmaps x = fourWays(1);
            due("5 op " + op, x.join(op), 2);
            dueTop("5 op " + op, x, due[op]);
            x.pop();
            dueTop("5 the set below, op " + op, x, -2);
        }
        RunBitmaps x = fourWays(10);
        int[] wrong = {LEAST, -1, 4, MOST};
        for (int op : wrong) {
            due("5 op " + op, x.join(op), BAD);
        }
        dueTop("5 nothing changed", x, 0x4CCCCCCC, 0x199);
        due("5 two groups", x.join(2), 2);
        dueTop("5 two groups", x, 0x22222222, 0x44);
        due("5 of the last two", x.join(2), 1);
        due("7 empty but it", x.count(), 0);
        due("5 one", x.join(0), LACKS);
        due("5 bad goes before lacks", x.join(4), BAD);
        x.pop();
        due("5 none", x.join(3), LACKS);
        due("5 none, bad", x.join(-1), BAD);
    }

    private void joinOfFills() {
        RunBitmaps x = new RunBitmaps();
        x.append(0, 1, 62);
        x.append(0, 0, 62);
        x.append(1, 0, 62);
        x.append(1, 1, 5);
        x.push(0, 0);
        x.push(1, 0);
        x.join(0);
        dueTop("5 both", x, -4, -5, -6);
        x.pop();
        x.push(0, 0);
        x.push(1, 0);
        x.join(1);
        dueTop("5 one at least", x, -13, -2);
        x.pop();
        x.push(0, 0);
        x.push(1, 0);
        x.join(2);
        dueTop("5 lower alone", x, -5, -10);
        x.pop();
        x.push(0, 0);
        x.push(1, 0);
        x.join(3);
        dueTop("5 just one", x, -5, -4, -5, -2);
        x.push(0, 1);
        x.push(0, 0);
        x.join(1);
        dueTop("5 all rows, the last group short", x, -13, 0x1F);
        x.join(3);
        dueTop("5 cut out of all", x, -4, -5, -4, 0x1F);
        RunBitmaps halves = new RunBitmaps();
        halves.append(0, 0, 15);
        halves.append(1, 0, 16);
        halves.append(1, 0, 62);
        halves.push(0, 0);
        halves.push(0, 1);
        halves.join(1);
        dueTop("5 literals become a fill", halves, -7);
        RunBitmaps none = new RunBitmaps();
        none.push(0, 0);
        none.push(1, 0);
        due("5 without rows", none.join(1), 1);
        dueTop("5 without rows", none);
    }

    private void not() {
        RunBitmaps x = threeRuns();
        due("6 none", x.not(), LACKS);
        x.push(0, 1);
        x.push(0, 2);
        due("6 two", x.not(), 2);
        dueTop("6 others", x, 0x3FF, 0x7FFFFE00, -5, 0x1FF);
        due("6 back", x.not(), 2);
        dueTop("6 back", x, 0x7FFFFC00, 0x1FF, -6);
        x.pop();
        dueTop("6 the one below", x, 0x3FF, 0x7FFFFE00, -5, 0x1FF);
        x.push(0, 0);
        x.not();
        dueTop("6 of none", x, -9, 0x1FF);
        due("6 of none, count", x.count(), 133);
        x.not();
        dueTop("6 of all", x, -10);
        RunBitmaps whole = new RunBitmaps();
        whole.append(3, 3, 62);
        whole.push(0, 3);
        whole.not();
        dueTop("6 whole groups, of all", whole, -4);
        whole.not();
        dueTop("6 whole groups, of none", whole, -5);
        RunBitmaps none = new RunBitmaps();
        none.push(0, 0);
        due("6 without rows", none.not(), 1);
        dueTop("6 without rows", none);
    }

    private void count() {
        RunBitmaps x = threeRuns();
        due("7 no set", x.count(), -1);
        x.push(0, 1);
        due("7 literals and fill", x.count(), 103);
        x.push(0, 2);
        due("7 literals", x.count(), 30);
        x.push(0, 3);
        due("7 none", x.count(), 0);
        x.push(1, 7);
        due("7 all", x.count(), 133);
        x.pop();
        x.pop();
        due("7 the one below", x.count(), 30);
        RunBitmaps most = new RunBitmaps();
        most.append(0, 9, 1000000);
        most.push(1, 9);
        due("7 most", most.count(), 1000000);
        most.not();
        due("7 least", most.count(), 0);
    }

    private void after() {
        RunBitmaps x = threeRuns();
        due("8 no set", x.after(-1), -1);
        x.push(0, 1);
        int[] row = {LEAST, -2, -1, 0, 8, 9, 10, 38, 39, 40, 60, 61, 62, 100, 123, 124, 131, 132, 133, MOST - 1, MOST};
        int[] next = {0, 0, 0, 1, 9, 40, 40, 40, 40, 41, 61, 62, 63, 101, 124, 125, 132, -1, -1, -1, -1};
        for (int i = 0; i < row.length; i++) {
            due("8 after " + row[i], x.after(row[i]), next[i]);
        }
        x.push(0, 2);
        due("8 first", x.after(-1), 10);
        due("8 over a group's end", x.after(30), 31);
        due("8 last", x.after(38), 39);
        due("8 behind the last", x.after(39), -1);
        due("8 in the empty fill", x.after(100), -1);
        RunBitmaps late = new RunBitmaps();
        late.append(0, 0, 62);
        late.append(1, 0, 62);
        late.push(0, 1);
        due("8 full fill behind an empty one", late.after(LEAST), 62);
        due("8 from within the empty one", late.after(40), 62);
        due("8 from within the full one", late.after(100), 101);
        x.push(0, 3);
        due("8 empty set", x.after(LEAST), -1);
        RunBitmaps most = new RunBitmaps();
        most.append(0, 0, 999999);
        most.append(1, 0, 1);
        most.push(0, 1);
        due("8 most", most.after(-1), 999999);
        due("8 from far below", most.after(LEAST), 999999);
        due("8 just below", most.after(999998), 999999);
        due("8 at it", most.after(999999), -1);
        due("8 above it", most.after(1000000), -1);
    }

    private void words() {
        RunBitmaps x = threeRuns();
        due("9 no set", x.words(), -1);
        x.push(0, 1);
        due("9 four", x.words(), 4);
        x.push(0, 0);
        due("9 one", x.words(), 1);
        x.pop();
        due("9 the one below", x.words(), 4);
        x.pop();
        due("9 no set again", x.words(), -1);
    }

    private void word() {
        RunBitmaps x = threeRuns();
        due("10 no set", x.word(0), 0);
        x.push(0, 0);
        x.push(0, 1);
        int[] wrong = {LEAST, -1, 4, 5, 3000, MOST};
        for (int i : wrong) {
            due("10 word " + i, x.word(i), 0);
        }
        due("10 literal", x.word(0), 0x3FF);
        due("10 literal to the last bit", x.word(1), 0x7FFFFE00);
        due("10 full fill", x.word(2), -5);
        due("10 last", x.word(3), 0x1FF);
        x.pop();
        due("10 empty fill", x.word(0), -10);
        x.pop();
        due("10 no set again", x.word(0), 0);
        RunBitmaps most = new RunBitmaps();
        most.append(0, 0, 1000000);
        most.push(0, 0);
        dueTop("10 longest full fill", most, -2 * 32258 - 1, 3);
        most.not();
        dueTop("10 longest empty fill", most, -2 * 32259);
    }

    private void pop() {
        RunBitmaps x = threeRuns();
        due("11 none", x.pop(), LACKS);
        x.push(0, 1);
        x.push(0, 2);
        x.push(0, 3);
        due("11 two left", x.pop(), 2);
        dueTop("11 second", x, 0x7FFFFC00, 0x1FF, -6);
        due("11 one left", x.pop(), 1);
        dueTop("11 first", x, 0x3FF, 0x7FFFFE00, -5, 0x1FF);
        due("11 none left", x.pop(), 0);
        due("11 none again", x.pop(), LACKS);
        due("11 rows may come again", x.append(0, 0, 1), 134);
    }

    private void room() {
        RunBitmaps x = new RunBitmaps();
        due("12 no rows", x.room(), 0);
        x.append(0, 0, 1);
        due("12 a word for each set", x.room(), 32);
        x.append(0, 1, 30);
        due("12 still", x.room(), 32);
        x.append(0, 1, 1);
        due("12 three more", x.room(), 35);
        x.push(0, 0);
        x.not();
        due("12 the stack is apart", x.room(), 35);
        x.pop();
        x.append(0, 1, 30);
        due("12 a word goes", x.room(), 34);
    }

    private void stackRoom() {
        RunBitmaps x = threeRuns();
        due("13 none", x.stackRoom(), 0);
        x.push(0, 1);
        due("13 first", x.stackRoom(), 4);
        x.push(0, 2);
        due("13 second", x.stackRoom(), 7);
        x.copy();
        due("13 third", x.stackRoom(), 10);
        x.join(3);
        due("13 joined", x.stackRoom(), 5);
        x.not();
        due("13 turned about", x.stackRoom(), 6);
        x.pop();
        due("13 gone", x.stackRoom(), 4);
        x.push(0, 16);
        x.join(0);
        due("13 as before", x.stackRoom(), 4);
        x.pop();
        due("13 none again", x.stackRoom(), 0);
    }

    private void rows() {
        RunBitmaps x = new RunBitmaps();
        due("14 none", x.rows(), 0);
        x.append(0, 0, 5);
        due("14 five", x.rows(), 5);
        x.append(0, 0, 0);
        x.append(0, 0, 1000000);
        due("14 as before", x.rows(), 5);
        x.push(0, 0);
        x.append(0, 0, 1);
        due("14 as before when busy", x.rows(), 5);
        x.pop();
        x.append(1, 1, 999995);
        due("14 most", x.rows(), 1000000);
    }
}
