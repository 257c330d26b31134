/** The boundary cases of promises 1, 2, 12 and 14: a test for each sentence that names one. */
public final class AppendEdgeTest {
    private static final int BAD = RunBitmaps.BAD;
    private static final int BUSY = RunBitmaps.BUSY;
    private static final int FULL = RunBitmaps.FULL;
    private static final int LACKS = RunBitmaps.LACKS;
    private static final int LEAST = Integer.MIN_VALUE;
    private static final int MOST = Integer.MAX_VALUE;
    private static final int ALL = 0x7FFFFFFF;

    private final Answers answers = new Answers();

    public static void main(String[] args) {
        AppendEdgeTest test = new AppendEdgeTest();
        test.newObjectHasNoRows();
        test.newObjectHasAnEmptyStack();
        test.newObjectIsApartFromOthers();
        test.manyIsFrom1();
        test.manyIsUpToAMillion();
        test.badValues();
        test.badMany();
        test.badChangesNothing();
        test.busyWhenTheStackIsNotEmpty();
        test.busyWithASetWithoutWords();
        test.busyAtEachHeight();
        test.busyChangesNothing();
        test.fullForRows();
        test.fullForRowsChangesNothing();
        test.fullForWords();
        test.fullForWordsChangesNothing();
        test.fullGoesByWordsInTheEnd();
        test.fitsWithoutNewWords();
        test.fitsWithFewerWords();
        test.firstAnswerThatApplies();
        test.room();
        test.rows();
        test.answers.end();
    }

    private Run run(String sentence) {
        return new Run(answers, sentence);
    }

    private void newObjectHasNoRows() {
        Run x = run("1 a new object: no rows");
        x.rows(0);
        x.room(0);
        x.append(0, 0, 1, 1);
        Run y = run("1 a new object: no rows, all may come");
        y.append(0, 0, 1000000, 1000000);
    }

    private void newObjectHasAnEmptyStack() {
        Run x = run("1 a new object: an empty stack");
        x.stackRoom(0);
        x.count(-1);
        x.after(-1, -1);
        x.words(-1);
        x.word(0, 0);
        x.pop(LACKS);
        x.copy(LACKS);
        x.not(LACKS);
        x.join(0, LACKS);
        x.push(0, 0, 1);
    }

    private void newObjectIsApartFromOthers() {
        Run x = run("1 a new object, beside another");
        Run y = run("1 a new object, made before the other was used");
        x.append(5, 5, 40, 40);
        x.push(0, 5, 1);
        y.rows(0);
        y.room(0);
        y.pop(LACKS);
        y.append(5, 5, 3, 3);
        y.set(0, 5, 0x7);
        x.top(-3, 0x1FF);
    }

    private void manyIsFrom1() {
        Run x = run("2 1 .. 1000000 rows, one");
        x.append(15, 15, 0, BAD);
        x.append(15, 15, 1, 1);
        x.append(0, 0, 1, 2);
        x.set(0, 15, 0x1);
        x.set(1, 0, 0x2);
    }

    private void manyIsUpToAMillion() {
        Run x = run("2 1 .. 1000000 rows, a million");
        x.append(15, 0, 1000001, BAD);
        x.append(15, 0, 1000000, 1000000);
        x.set(0, 15, -2 * 32258 - 1, 0x3);
        x.set(1, 0, -2 * 32258 - 1, 0x3);
        x.set(0, 0, -2 * 32259);
    }

    private void badValues() {
        Run x = run("2 BAD, values");
        int[] wrong = {LEAST, -16, -1, 16, 17, 31, 32, 256, MOST};
        for (int value : wrong) {
            x.append(value, 0, 1, BAD);
            x.append(0, value, 1, BAD);
            x.append(value, value, 1, BAD);
        }
        x.rows(0);
        x.append(0, 15, 1, 1);
        x.append(15, 0, 1, 2);
    }

    private void badMany() {
        Run x = run("2 BAD, many");
        int[] wrong = {LEAST, LEAST + 1, -1000000, -1, 0, 1000001, 1000031, MOST - 1, MOST};
        for (int many : wrong) {
            x.append(0, 0, many, BAD);
        }
        x.rows(0);
        x.append(0, 0, 7, 7);
        for (int many : wrong) {
            x.append(0, 0, many, BAD);
        }
        x.rows(7);
    }

    private void badChangesNothing() {
        Run x = run("2 BAD, nothing changes");
        x.append(1, 2, 40, 40);
        x.append(16, 3, 5, BAD);
        x.append(3, -1, 5, BAD);
        x.append(3, 3, 0, BAD);
        x.append(3, 3, 1000001, BAD);
        x.rows(40);
        x.room(34);
        x.set(0, 1, -3, 0x1FF);
        x.set(1, 2, -3, 0x1FF);
        x.set(0, 3, -4);
        x.set(1, 3, -4);
    }

    private void busyWhenTheStackIsNotEmpty() {
        Run x = run("2 BUSY when the stack is not empty");
        x.append(0, 0, 5, 5);
        x.push(0, 0, 1);
        x.append(0, 0, 1, BUSY);
        x.append(0, 0, 1000000, BUSY);
        x.pop(0);
        x.append(0, 0, 1, 6);
    }

    private void busyWithASetWithoutWords() {
        Run x = run("2 BUSY when the stack is not empty, a set without words");
        x.push(1, 1, 1);
        x.append(0, 0, 1, BUSY);
        x.rows(0);
        x.pop(0);
        x.append(0, 0, 1, 1);
    }

    private void busyAtEachHeight() {
        Run x = run("2 BUSY when the stack is not empty, at each height");
        x.append(0, 0, 5, 5);
        for (int sets = 1; sets <= 12; sets++) {
            x.push(0, 0, sets);
            x.append(0, 0, 1, BUSY);
        }
        for (int sets = 11; sets >= 1; sets--) {
            x.join(3, sets);
            x.append(0, 0, 1, BUSY);
        }
        x.not(1);
        x.append(0, 0, 1, BUSY);
        x.pop(0);
        x.append(0, 0, 1, 6);
    }

    private void busyChangesNothing() {
        Run x = run("2 BUSY, nothing changes");
        x.append(1, 2, 40, 40);
        x.push(0, 1, 1);
        x.append(3, 3, 50, BUSY);
        x.top(-3, 0x1FF);
        x.count(40);
        x.rows(40);
        x.room(34);
        x.pop(0);
        x.set(0, 1, -3, 0x1FF);
        x.set(0, 3, -4);
        x.set(1, 3, -4);
    }

    private void fullForRows() {
        int[] there = {1, 31, 500000, 999998, 999999, 1000000};
        for (int rows : there) {
            Run x = run("2 FULL when there would be too many rows, behind " + rows);
            x.append(0, 0, rows, rows);
            x.append(0, 0, 1000000, FULL);
            x.append(0, 0, 1000001 - rows, FULL);
            x.rows(rows);
            if (rows < 1000000) {
                x.append(0, 0, 1000000 - rows, 1000000);
            }
            x.append(0, 0, 1, FULL);
        }
    }

    private void fullForRowsChangesNothing() {
        Run x = run("2 FULL when there would be too many rows, nothing changes");
        x.append(1, 2, 40, 40);
        x.append(3, 4, 999961, FULL);
        x.append(3, 4, 1000000, FULL);
        x.rows(40);
        x.room(34);
        for (int value = 0; value < 16; value++) {
            if (value == 1) {
                x.set(0, value, -3, 0x1FF);
            } else {
                x.set(0, value, -4);
            }
            if (value == 2) {
                x.set(1, value, -3, 0x1FF);
            } else {
                x.set(1, value, -4);
            }
        }
        x.append(3, 4, 1, 41);
        x.set(0, 3, -2, 0x200);
        x.append(3, 4, 999959, 1000000);
        x.set(1, 4, -2, 0x7FFFFE00, -2 * 32256 - 1, 0x3);
    }

    /** 2000 words; the last group has three rows, in column 0 with 1, 2 and 3, in column 1 with 1. */
    private Run crowd(String sentence) {
        Run x = run(sentence);
        x.appendCrowd();
        x.append(2, 1, 1, 15254);
        x.append(3, 1, 1, 15255);
        return x;
    }

    private void fullForWords() {
        Run x = crowd("2 FULL when there would be too many words");
        x.room(2000);
        x.append(4, 1, 1, FULL);
        x.append(1, 0, 1, FULL);
        x.append(4, 4, 1, FULL);
        x.append(1, 1, 29, FULL);
        x.append(15, 15, 31, FULL);
        x.append(1, 1, 900000, FULL);
        x.append(15, 15, 984745, FULL);
        x.room(2000);
        x.rows(15255);
    }

    private void fullForWordsChangesNothing() {
        String sentence = "2 FULL when there would be too many words, nothing changes";
        for (int set = 0; set < 32; set++) {
            int mostWords = set % 16 < 2 ? 600 : 1;
            for (int firstWord = 0; firstWord < mostWords; firstWord += 200) {
                Run x = crowd(sentence);
                x.append(4, 1, 1, FULL);
                x.append(1, 0, 1, FULL);
                x.append(15, 15, 900000, FULL);
                x.sameSet(crowd(sentence), set / 16, set % 16, firstWord);
            }
        }
        Run x = crowd(sentence + ", and more rows come");
        x.append(4, 1, 1, FULL);
        x.append(1, 15, 60, FULL);
        x.append(2, 1, 20, 15275);
        x.room(2000);
        x.push(0, 2, 1);
        x.top(-2 * 492, 0x7FFFFA);
        x.push(0, 4, 2);
        x.top(-2 * 493);
        x.push(1, 15, 3);
        x.top(-2 * 493);
    }

    /** The words before and behind an append are weighed, not those that come and go while it is done. */
    private void fullGoesByWordsInTheEnd() {
        Run x = run("2 FULL when there would be too many words, one goes when others come");
        for (int i = 0; i < 4; i++) {
            x.append(2 + i, 2, 31, 31 * i + 31);
        }
        x.append(1, 1, 1, 125);
        for (int i = 0; i < 244; i++) {
            x.append(i % 2, i % 2, 62, 62 * i + 187);
        }
        x.append(1, 15, 91, 15344);
        x.room(1998);
        x.append(0, 15, 32, 15376);
        x.room(2000);
    }

    private void fitsWithoutNewWords() {
        Run x = crowd("2 no new words at the limit");
        x.append(3, 1, 26, 15281);
        x.room(2000);
        x.append(2, 1, 1, 15282);
        x.room(2000);
        x.push(0, 3, 1);
        x.top(-2 * 492, 0x1FFFFFFC);
        x.push(1, 1, 2);
        x.count(31 * 246 + 30);
    }

    private void fitsWithFewerWords() {
        Run x = crowd("2 fewer words at the limit");
        x.append(3, 1, 28, 15283);
        x.room(1999);
        x.push(0, 3, 1);
        x.top(-2 * 492, ALL - 3);
        x.pop(0);
        x.append(4, 1, 31, FULL);
        x.room(1999);
        x.rows(15283);
    }

    private void firstAnswerThatApplies() {
        Run x = run("2 BAD, BUSY, FULL: the first that applies");
        x.append(0, 0, 10, 10);
        x.push(0, 0, 1);
        x.append(16, 0, 1, BAD);
        x.append(0, -1, 1, BAD);
        x.append(0, 0, 0, BAD);
        x.append(0, 0, 1000001, BAD);
        x.append(0, 0, 1000000, BUSY);
        x.pop(0);
        x.append(0, 16, 1000000, BAD);
        x.append(0, 0, 1000000, FULL);
    }

    private void room() {
        Run x = run("12 how many words all sets of values take");
        x.room(0);
        x.append(0, 0, 1, 1);
        x.room(32);
        x.append(0, 0, 30, 31);
        x.room(32);
        x.append(0, 0, 1, 32);
        x.room(34);
        x.append(1, 0, 1, 33);
        x.room(35);
        x.append(0, 1, 1, 34);
        x.room(36);
        x.append(2, 2, 1000000, FULL);
        x.append(16, 2, 1, BAD);
        x.room(36);
        x.pushTimes(12, 0, 0, 1);
        x.room(36);
        x.append(2, 2, 1, BUSY);
        x.not(12);
        x.join(0, 11);
        x.room(36);
    }

    private void rows() {
        Run x = run("14 how many rows there are");
        x.rows(0);
        x.append(0, 0, 1, 1);
        x.rows(1);
        x.append(0, 0, 0, BAD);
        x.append(0, 0, -1, BAD);
        x.append(0, 0, 1000000, FULL);
        x.rows(1);
        x.push(0, 0, 1);
        x.append(0, 0, 1, BUSY);
        x.rows(1);
        x.not(1);
        x.rows(1);
        x.pop(0);
        x.append(0, 0, 999999, 1000000);
        x.rows(1000000);
        x.append(0, 0, 1, FULL);
        x.rows(1000000);
    }
}
