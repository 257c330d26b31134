/** The boundary cases of promises 7 to 10: a test for each sentence that names one. */
public final class LookEdgeTest {
    private static final int LEAST = Integer.MIN_VALUE;
    private static final int MOST = Integer.MAX_VALUE;
    private static final int ALL = 0x7FFFFFFF;

    private final Answers answers = new Answers();

    public static void main(String[] args) {
        LookEdgeTest test = new LookEdgeTest();
        test.countWithoutASet();
        test.countOfTheLeast();
        test.countOfTheMost();
        test.countLeavesTheLackOut();
        test.afterWithoutASet();
        test.afterWhenThereIsNone();
        test.afterIsAboveTheNumber();
        test.afterAFarNumber();
        test.afterTheLastRows();
        test.afterInFills();
        test.wordsWithoutASet();
        test.wordsOfTheLeast();
        test.wordsOfTheMost();
        test.wordWithoutASet();
        test.wordBesideTheWords();
        test.wordThatIsALiteral();
        test.wordThatIsAFill();
        test.looksChangeNothing();
        test.answers.end();
    }

    private Run run(String sentence) {
        return new Run(answers, sentence);
    }

    private void countWithoutASet() {
        Run x = run("7 -1 when there is none");
        x.count(-1);
        x.append(0, 0, 5, 5);
        x.count(-1);
        x.push(0, 0, 1);
        x.count(5);
        x.pop(0);
        x.count(-1);
    }

    private void countOfTheLeast() {
        Run none = run("7 how many rows, without rows");
        none.push(0, 0, 1);
        none.count(0);
        Run x = run("7 how many rows, none and one");
        x.append(0, 0, 99, 99);
        x.append(1, 0, 1, 100);
        x.push(0, 2, 1);
        x.count(0);
        x.push(0, 1, 2);
        x.count(1);
        x.push(0, 0, 3);
        x.count(99);
        x.pop(2);
        x.pop(1);
        x.count(0);
    }

    private void countOfTheMost() {
        Run x = run("7 how many rows, a million");
        x.append(0, 0, 1000000, 1000000);
        x.push(0, 0, 1);
        x.count(1000000);
        x.not(1);
        x.count(0);
        x.not(1);
        x.count(1000000);
        for (int rows = 30; rows <= 32; rows++) {
            Run y = run("7 how many rows, about a group");
            y.append(0, 0, rows, rows);
            y.push(0, 0, 1);
            y.count(rows);
        }
    }

    private void countLeavesTheLackOut() {
        for (int rows = 32; rows <= 62; rows++) {
            Run x = run("7 how many rows, the last group with less, " + rows);
            x.append(0, 0, rows, rows);
            x.push(0, 1, 1);
            x.not(1);
            x.count(rows);
        }
    }

    private void afterWithoutASet() {
        int[] rows = {LEAST, -1, 0, 4, 5, MOST};
        Run x = run("8 -1 when there is no set");
        for (int row : rows) {
            x.after(row, -1);
        }
        x.append(0, 0, 5, 5);
        for (int row : rows) {
            x.after(row, -1);
        }
        x.push(0, 0, 1);
        x.pop(0);
        for (int row : rows) {
            x.after(row, -1);
        }
    }

    private void afterWhenThereIsNone() {
        int[] rows = {LEAST, -1, 0, 30, 31, 61, 62, 93, 94, MOST};
        Run x = run("8 -1 when there is none");
        x.push(0, 0, 1);
        for (int row : rows) {
            x.after(row, -1);
        }
        x.pop(0);
        x.append(0, 0, 31, 31);
        x.append(1, 0, 1, 32);
        x.append(2, 0, 62, 94);
        x.push(0, 3, 1);
        for (int row : rows) {
            x.after(row, -1);
        }
        x.push(0, 0, 2);
        x.after(29, 30);
        x.after(30, -1);
        x.after(31, -1);
        x.push(0, 1, 3);
        x.after(30, 31);
        x.after(31, -1);
        x.after(32, -1);
        x.push(0, 2, 4);
        x.after(92, 93);
        x.after(93, -1);
        x.after(94, -1);
    }

    private void afterIsAboveTheNumber() {
        Run x = run("8 the least row above a number");
        x.append(1, 0, 1, 1);
        x.append(0, 0, 29, 30);
        x.append(1, 0, 2, 32);
        x.append(0, 0, 62, 94);
        x.append(1, 0, 31, 125);
        x.push(0, 1, 1);
        int[] row = {-1, 0, 1, 28, 29, 30, 31, 32, 92, 93, 94, 122, 123, 124};
        int[] next = {0, 30, 30, 30, 30, 31, 94, 94, 94, 94, 95, 123, 124, -1};
        for (int i = 0; i < row.length; i++) {
            x.after(row[i], next[i]);
        }
    }

    private void afterAFarNumber() {
        Run x = run("8 the least row above a number, far off");
        x.append(0, 0, 5, 5);
        x.append(1, 0, 40, 45);
        x.append(2, 0, 48, 93);
        x.append(3, 0, 31, 124);
        int[] below = {LEAST, LEAST + 1, LEAST + 31, -1000000, -32, -31, -2, -1};
        int[] above = {123, 124, 155, 999999, 1000000, 1000001, MOST - 31, MOST - 1, MOST};
        int[] first = {0, 5, 45, 93};
        for (int value = 0; value < first.length; value++) {
            x.push(0, value, value + 1);
            for (int row : below) {
                x.after(row, first[value]);
            }
            for (int row : above) {
                x.after(row, -1);
            }
        }
    }

    private void afterTheLastRows() {
        Run x = run("8 the least row above a number, the last rows of a million");
        x.append(0, 0, 999999, 999999);
        x.append(1, 1, 1, 1000000);
        x.push(0, 1, 1);
        x.after(-1, 999999);
        x.after(999998, 999999);
        x.after(999999, -1);
        x.after(1000000, -1);
        x.not(1);
        x.after(999997, 999998);
        x.after(999998, -1);
        x.after(999999, -1);
        x.push(0, 2, 2);
        x.not(2);
        x.after(999998, 999999);
        x.after(999999, -1);
        x.after(1000000, -1);
    }

    private void afterInFills() {
        Run x = run("8 the least row above a number, in fills");
        x.append(0, 0, 310, 310);
        x.append(1, 0, 310, 620);
        x.append(0, 0, 310, 930);
        x.push(0, 1, 1);
        int[] row = {-1, 0, 100, 308, 309, 310, 311, 339, 340, 341, 500, 617, 618, 619, 620, 800, 929};
        int[] next = {310, 310, 310, 310, 310, 311, 312, 340, 341, 342, 501, 618, 619, -1, -1, -1, -1};
        for (int i = 0; i < row.length; i++) {
            x.after(row[i], next[i]);
        }
        x.not(1);
        x.after(309, 620);
        x.after(308, 309);
        x.after(928, 929);
        x.after(929, -1);
    }

    private void wordsWithoutASet() {
        Run x = run("9 -1 when there is none");
        x.words(-1);
        x.append(0, 0, 5, 5);
        x.words(-1);
        x.push(0, 0, 1);
        x.words(1);
        x.pop(0);
        x.words(-1);
    }

    private void wordsOfTheLeast() {
        Run x = run("9 how many words, none and one");
        x.push(0, 0, 1);
        x.words(0);
        x.pop(0);
        x.append(0, 0, 1, 1);
        x.push(0, 0, 1);
        x.words(1);
        x.push(0, 1, 2);
        x.words(1);
    }

    private void wordsOfTheMost() {
        Run x = run("9 how many words, many");
        x.appendStripes();
        x.push(0, 0, 1);
        x.words(428);
        x.push(0, 1, 2);
        x.words(427);
        x.push(1, 0, 3);
        x.words(2);
        x.push(1, 1, 4);
        x.words(1);
    }

    private void wordWithoutASet() {
        int[] wrong = {LEAST, -1, 0, 1, MOST};
        Run x = run("10 0 when there is none, no set");
        for (int i : wrong) {
            x.word(i, 0);
        }
        x.append(0, 0, 5, 5);
        x.push(0, 0, 1);
        x.word(0, 0x1F);
        x.pop(0);
        for (int i : wrong) {
            x.word(i, 0);
        }
        Run none = run("10 0 when there is none, without rows");
        none.push(0, 0, 1);
        for (int i : wrong) {
            none.word(i, 0);
        }
    }

    private void wordBesideTheWords() {
        Run x = run("10 0 when there is none, before and behind the words");
        x.append(0, 0, 31, 31);
        x.append(1, 0, 31, 62);
        x.append(0, 0, 31, 93);
        x.push(0, 0, 1);
        x.push(0, 0, 2);
        x.push(0, 0, 3);
        x.pop(2);
        int[] wrong = {LEAST, -3, -1, 3, 4, 2000, 2999, 3000, 3001, MOST - 3, MOST};
        for (int i : wrong) {
            x.word(i, 0);
        }
        x.word(0, -3);
        x.word(1, -2);
        x.word(2, -3);
        x.push(0, 5, 3);
        for (int i : wrong) {
            x.word(i, 0);
        }
        x.word(0, -6);
        x.word(1, 0);
        x.word(2, 0);
    }

    private void wordThatIsALiteral() {
        Run x = run("10 a literal as it is, the least and the most");
        x.append(1, 0, 1, 1);
        x.append(0, 0, 30, 31);
        x.append(0, 0, 30, 61);
        x.append(1, 0, 1, 62);
        x.push(0, 1, 1);
        x.top(0x1, 0x40000000);
        x.not(1);
        x.top(ALL - 1, 0x3FFFFFFF);
    }

    private void wordThatIsAFill() {
        Run x = run("10 a fill of n groups, the least");
        x.append(0, 0, 31, 31);
        x.append(1, 0, 31, 62);
        x.push(0, 0, 1);
        x.top(-3, -2);
        x.push(0, 1, 2);
        x.top(-2, -3);
        x.join(1, 1);
        x.top(-5);
        x.not(1);
        x.top(-4);
        Run most = run("10 a fill of n groups, the most");
        most.append(0, 0, 1000000, 1000000);
        most.push(0, 1, 1);
        most.top(-64518);
        most.not(1);
        most.top(-64517, 0x3);
    }

    private void looksChangeNothing() {
        Run x = run("7 to 10, 12 to 14: a look changes nothing");
        x.append(1, 7, 10, 10);
        x.append(2, 7, 30, 40);
        x.push(0, 1, 1);
        x.push(0, 2, 2);
        for (int i = 0; i < 3; i++) {
            x.count(30);
            x.after(9, 10);
            x.top(0x7FFFFC00, 0x1FF);
            x.room(35);
            x.stackRoom(4);
            x.rows(40);
        }
        x.pop(1);
        x.top(0x3FF, -2);
    }
}
