/** The boundary cases of promises 3 to 6, 11 and 13: a test for each sentence that names one. */
public final class StackEdgeTest {
    private static final int BAD = RunBitmaps.BAD;
    private static final int FULL = RunBitmaps.FULL;
    private static final int LACKS = RunBitmaps.LACKS;
    private static final int LEAST = Integer.MIN_VALUE;
    private static final int MOST = Integer.MAX_VALUE;

    private final Answers answers = new Answers();

    public static void main(String[] args) {
        StackEdgeTest test = new StackEdgeTest();
        test.pushAnswersHowManySets();
        test.pushOfAValueWithoutRows();
        test.pushBad();
        test.pushBadGoesBeforeFull();
        test.pushFullWhenItHas12();
        test.pushFullWhenItsWordsDoNotFit();
        test.copyIsTheTopSetOnceMore();
        test.copyLacks();
        test.copyFullWhenItHas12();
        test.copyFullWhenItsWordsDoNotFit();
        test.joinOfTheTwoTopSets();
        test.joinAtTheLeastAndTheMost();
        test.joinBad();
        test.joinLacks();
        test.joinOf12Sets();
        test.joinNearestToFull();
        test.notOfAllAndOfNone();
        test.notLeavesTheLackOut();
        test.notLacks();
        test.notOf12Sets();
        test.notFull();
        test.notFullOfABigSet();
        test.notFitsWithFewerWords();
        test.popLacks();
        test.popOfEach();
        test.stackRoomOfNone();
        test.stackRoomOfAll();
        test.answers.end();
    }

    private Run run(String sentence) {
        return new Run(answers, sentence);
    }

    /** Rows 0 .. 9 have 1 in column 0, 10 .. 39 have 2; all have 7 in column 1. */
    private Run twoRuns(String sentence) {
        Run x = run(sentence);
        x.append(1, 7, 10, 10);
        x.append(2, 7, 30, 40);
        return x;
    }

    private static void dueFirstRun(Run x) {
        x.top(0x3FF, -2);
        x.count(10);
    }

    private static void dueSecondRun(Run x) {
        x.top(0x7FFFFC00, 0x1FF);
        x.count(30);
    }

    private void pushAnswersHowManySets() {
        Run x = twoRuns("3 how many sets it has");
        x.push(0, 1, 1);
        dueFirstRun(x);
        x.push(0, 2, 2);
        dueSecondRun(x);
        x.pop(1);
        x.push(1, 7, 2);
        x.top(-3, 0x1FF);
        x.join(0, 1);
        x.push(0, 15, 2);
    }

    private void pushOfAValueWithoutRows() {
        Run x = twoRuns("3 the set of a value that no row has");
        x.push(0, 7, 1);
        x.top(-4);
        x.count(0);
        x.push(1, 1, 2);
        x.top(-4);
        x.stackRoom(2);
    }

    private void pushBad() {
        Run x = twoRuns("3 BAD");
        int[] wrongColumn = {LEAST, -1, 2, 3, 16, MOST};
        for (int column : wrongColumn) {
            x.push(column, 1, BAD);
        }
        int[] wrongValue = {LEAST, -16, -1, 16, 17, 32, MOST};
        for (int value : wrongValue) {
            x.push(0, value, BAD);
            x.push(1, value, BAD);
            x.push(2, value, BAD);
        }
        x.pop(LACKS);
        x.push(0, 1, 1);
        x.push(0, 16, BAD);
        x.push(1, -1, BAD);
        x.push(-1, 2, BAD);
        dueFirstRun(x);
        x.stackRoom(2);
        x.push(0, 0, 2);
        x.push(1, 0, 3);
        x.push(0, 15, 4);
        x.push(1, 15, 5);
    }

    private void pushBadGoesBeforeFull() {
        Run x = twoRuns("3 BAD, FULL: the first that applies");
        x.pushTimes(12, 0, 1, 1);
        x.push(0, 16, BAD);
        x.push(2, 0, BAD);
        x.push(0, 0, FULL);
    }

    private void pushFullWhenItHas12() {
        Run x = twoRuns("3 FULL when it has 12");
        x.pushTimes(11, 0, 1, 1);
        x.push(0, 2, 12);
        x.push(0, 1, FULL);
        x.push(1, 7, FULL);
        dueSecondRun(x);
        x.stackRoom(24);
        x.pop(11);
        dueFirstRun(x);
        x.push(1, 7, 12);
        x.push(1, 7, FULL);
        Run none = run("3 FULL when it has 12, without words");
        none.pushTimes(12, 0, 0, 1);
        none.push(0, 0, FULL);
        none.pop(11);
    }

    private void pushFullWhenItsWordsDoNotFit() {
        Run x = run("3 FULL when its words do not fit");
        x.appendStripes();
        x.pushTimes(7, 0, 0, 1);
        x.push(0, 0, FULL);
        x.push(0, 1, FULL);
        x.stackRoom(2996);
        x.words(428);
        x.pushTimes(3, 0, 5, 8);
        x.stackRoom(2999);
        x.push(1, 0, FULL);
        x.top(-2 * 428);
        x.push(1, 5, 11);
        x.stackRoom(3000);
        x.push(0, 5, FULL);
        x.push(1, 0, FULL);
        x.push(0, 0, FULL);
        x.stackRoom(3000);
        x.top(-2 * 428);
        x.pop(10);
        x.pop(9);
        x.push(1, 0, 10);
        x.top(-2 * 427 - 1, 1);
        x.stackRoom(3000);
        x.push(0, 5, FULL);
    }

    private void copyIsTheTopSetOnceMore() {
        Run x = twoRuns("4 the top set once more");
        x.push(0, 1, 1);
        x.push(0, 2, 2);
        x.copy(3);
        dueSecondRun(x);
        x.not(3);
        x.pop(2);
        dueSecondRun(x);
        x.pop(1);
        dueFirstRun(x);
    }

    private void copyLacks() {
        Run x = run("4 LACKS when there is none");
        x.copy(LACKS);
        x.append(0, 0, 5, 5);
        x.copy(LACKS);
        x.push(0, 0, 1);
        x.copy(2);
        x.pop(1);
        x.pop(0);
        x.copy(LACKS);
        x.stackRoom(0);
        x.pop(LACKS);
    }

    private void copyFullWhenItHas12() {
        Run x = twoRuns("4 FULL when it has 12");
        x.push(0, 2, 1);
        for (int sets = 2; sets <= 12; sets++) {
            x.copy(sets);
        }
        x.copy(FULL);
        dueSecondRun(x);
        x.stackRoom(24);
        x.pop(11);
        x.copy(12);
        x.copy(FULL);
        Run none = run("4 FULL when it has 12, without words");
        none.pushTimes(11, 0, 0, 1);
        none.copy(12);
        none.copy(FULL);
        none.pop(11);
    }

    private void copyFullWhenItsWordsDoNotFit() {
        Run x = run("4 FULL when its words do not fit");
        x.appendStripes();
        x.push(0, 0, 1);
        for (int sets = 2; sets <= 7; sets++) {
            x.copy(sets);
        }
        x.copy(FULL);
        x.stackRoom(2996);
        x.words(428);
        x.push(0, 5, 8);
        x.push(1, 0, 9);
        x.stackRoom(2999);
        x.copy(FULL);
        x.top(-2 * 427 - 1, 1);
        x.stackRoom(2999);
        x.pop(8);
        x.copy(9);
        x.copy(10);
        x.copy(11);
        x.stackRoom(3000);
        x.copy(FULL);
        x.top(-2 * 428);
        x.stackRoom(3000);
        x.pop(10);
    }

    private void joinOfTheTwoTopSets() {
        int[][] due = {{0x1, -2}, {-3, 0x1FF}, {0x3FE, -2}, {0x7FFFFFFE, 0x1FF}};
        for (int op = 0; op < 4; op++) {
            Run x = run("5 the two top sets become one, op " + op);
            x.append(1, 1, 1, 1);
            x.append(1, 0, 9, 10);
            x.append(2, 1, 30, 40);
            x.push(0, 2, 1);
            x.push(0, 1, 2);
            x.push(1, 1, 3);
            x.join(op, 2);
            x.top(due[op]);
            x.pop(1);
            dueSecondRun(x);
        }
    }

    /** Sets of all and of no rows: where each way of joining has its least and its most. */
    private void joinAtTheLeastAndTheMost() {
        boolean[][] all = {
            {false, false, false, true}, {false, true, true, true},
            {false, false, true, false}, {false, true, true, false},
        };
        for (int op = 0; op < 4; op++) {
            for (int which = 0; which < 4; which++) {
                Run x = run("5 of all and none, op " + op + ", sets " + which);
                x.append(0, 0, 40, 40);
                x.push(0, which / 2 == 1 ? 0 : 9, 1);
                x.push(0, which % 2 == 1 ? 0 : 9, 2);
                x.join(op, 1);
                if (all[op][which]) {
                    x.top(-3, 0x1FF);
                } else {
                    x.top(-4);
                }
            }
        }
    }

    private void joinBad() {
        Run x = twoRuns("5 BAD");
        int[] wrong = {LEAST, -4, -1, 4, 5, 8, MOST};
        for (int op : wrong) {
            x.join(op, BAD);
        }
        x.push(0, 1, 1);
        for (int op : wrong) {
            x.join(op, BAD);
        }
        x.push(0, 2, 2);
        for (int op : wrong) {
            x.join(op, BAD);
        }
        dueSecondRun(x);
        x.stackRoom(4);
        x.pop(1);
        dueFirstRun(x);
    }

    private void joinLacks() {
        for (int op = 0; op < 4; op++) {
            Run x = twoRuns("5 LACKS when there are not two, op " + op);
            x.join(op, LACKS);
            x.stackRoom(0);
            x.push(0, 1, 1);
            x.join(op, LACKS);
            dueFirstRun(x);
            x.stackRoom(2);
            x.push(0, 1, 2);
            x.join(op, 1);
            x.join(op, LACKS);
            x.pop(0);
            x.join(op, LACKS);
            x.pop(LACKS);
        }
    }

    private void joinOf12Sets() {
        Run x = twoRuns("5 how many sets the stack has, from 12 on");
        x.pushTimes(6, 0, 1, 1);
        x.pushTimes(6, 0, 2, 7);
        for (int sets = 11; sets >= 1; sets--) {
            x.join(1, sets);
        }
        x.top(-3, 0x1FF);
        x.join(1, LACKS);
    }

    /**
     * FULL of join: no run of calls comes to it, as one set of two has at least a word less than they had. Nearest to
     * it is the stack at its limit with top sets of which the joined one has just a word less.
     */
    private void joinNearestToFull() {
        Run x = run("5 FULL when the words would not fit, nearest to it");
        for (int i = 0; i < 428; i++) {
            x.append(i / 2 % 2, (i + 1) / 2 % 2, 31, 31 * i + 31);
        }
        pushStaggered(x, 0);
        x.join(3, 1);
        for (int sets = 2; sets <= 6; sets++) {
            x.copy(sets);
        }
        x.pushTimes(3, 0, 5, 7);
        int[] words = {214, 215, 215, 428};
        int[] groups = {107, 321, 107, 214};
        for (int op = 3; op >= 0; op--) {
            pushStaggered(x, 9);
            x.stackRoom(3000);
            x.join(op, 10);
            x.stackRoom(2571 + words[op]);
            x.words(words[op]);
            x.count(31 * groups[op]);
            x.pop(9);
        }
        x.top(-2 * 428);
        x.stackRoom(2571);
    }

    /** Sets of 214 and 215 words that never begin a word at the same group, but for the first. */
    private static void pushStaggered(Run x, int below) {
        x.push(0, 0, below + 1);
        x.push(1, 0, below + 2);
    }

    private void notOfAllAndOfNone() {
        Run x = run("6 all other rows, of all and of none");
        x.append(0, 0, 62, 62);
        x.push(1, 1, 1);
        x.not(1);
        x.top(-5);
        x.count(62);
        x.not(1);
        x.top(-4);
        x.count(0);
    }

    private void notLeavesTheLackOut() {
        Run x = run("6 all other rows, the last group with less");
        x.append(0, 0, 62, 62);
        x.append(1, 0, 1, 63);
        x.push(0, 0, 1);
        x.top(-5, -2);
        x.not(1);
        x.top(-4, 1);
        x.count(1);
        x.after(-1, 62);
        x.after(62, -1);
        x.not(1);
        x.top(-5, -2);
        x.push(0, 2, 2);
        x.top(-6);
        x.not(2);
        x.top(-5, 1);
        x.count(63);
        x.after(61, 62);
        x.after(62, -1);
        x.pop(1);
        x.top(-5, -2);
    }

    private void notLacks() {
        Run x = run("6 LACKS");
        x.not(LACKS);
        x.append(0, 0, 40, 40);
        x.not(LACKS);
        x.stackRoom(0);
        x.push(0, 0, 1);
        x.not(1);
        x.pop(0);
        x.not(LACKS);
        x.pop(LACKS);
    }

    private void notOf12Sets() {
        Run x = twoRuns("6 how many sets the stack has, 12");
        x.pushTimes(12, 0, 1, 1);
        x.not(12);
        dueSecondRun(x);
        x.pop(11);
        dueFirstRun(x);
    }

    private void notFull() {
        Run x = run("6 FULL when the words would not fit");
        x.appendStripes();
        x.pushTimes(7, 0, 0, 1);
        x.pushTimes(4, 0, 5, 8);
        x.stackRoom(3000);
        x.not(FULL);
        x.top(-2 * 428);
        x.count(0);
        x.after(-1, -1);
        x.stackRoom(3000);
        x.pop(10);
        x.stackRoom(2999);
        x.not(10);
        x.top(-2 * 427 - 1, 1);
        x.count(13238);
        x.stackRoom(3000);
        x.push(0, 5, FULL);
        x.not(10);
        x.top(-2 * 428);
        x.stackRoom(2999);
    }

    private void notFullOfABigSet() {
        Run x = run("6 FULL when the words would not fit, of a big set");
        x.appendStripes();
        x.pushTimes(6, 0, 0, 1);
        x.pushTimes(5, 0, 5, 7);
        x.push(0, 1, 12);
        x.stackRoom(3000);
        x.not(FULL);
        x.words(427);
        x.count(31 * 213);
        x.after(-1, 31);
        x.word(0, -2);
        x.word(1, -3);
        x.word(426, -4);
        x.word(427, 0);
        x.stackRoom(3000);
        x.pop(11);
        x.top(-2 * 428);
        x.stackRoom(2573);
    }

    private void notFitsWithFewerWords() {
        Run x = run("6 FULL when the words would not fit, but they do");
        x.appendStripes();
        x.pushTimes(6, 0, 0, 1);
        x.pushTimes(4, 0, 5, 7);
        x.push(0, 0, 11);
        x.stackRoom(3000);
        x.not(11);
        x.stackRoom(2999);
        x.words(427);
        x.count(31 * 213);
        x.not(11);
        x.stackRoom(3000);
        x.words(428);
        x.count(31 * 214 + 1);
    }

    private void popLacks() {
        Run x = run("11 LACKS");
        x.pop(LACKS);
        x.append(0, 0, 5, 5);
        x.pop(LACKS);
        x.push(0, 0, 1);
        x.pop(0);
        x.pop(LACKS);
        x.pop(LACKS);
        x.push(0, 0, 1);
        x.top(0x1F);
    }

    private void popOfEach() {
        Run x = run("11 how many are left, from 12 on");
        for (int value = 0; value < 12; value++) {
            x.append(value, 0, 1, value + 1);
        }
        for (int value = 0; value < 12; value++) {
            x.push(0, value, value + 1);
        }
        for (int value = 11; value >= 0; value--) {
            x.top(1 << value);
            x.pop(value);
        }
        x.words(-1);
        x.pop(LACKS);
    }

    private void stackRoomOfNone() {
        Run x = run("13 the sets on the stack take none");
        x.stackRoom(0);
        x.push(0, 0, 1);
        x.stackRoom(0);
        x.pop(0);
        x.append(0, 0, 5, 5);
        x.stackRoom(0);
        x.push(0, 0, 1);
        x.stackRoom(1);
        x.pop(0);
        x.stackRoom(0);
    }

    private void stackRoomOfAll() {
        Run x = twoRuns("13 how many words the sets on the stack take");
        for (int sets = 1; sets <= 12; sets++) {
            x.push(0, sets % 3, sets);
            x.stackRoom(sets * 2 - sets / 3);
        }
        x.push(0, 1, FULL);
        x.push(0, 16, BAD);
        x.copy(FULL);
        x.join(4, BAD);
        x.stackRoom(20);
        x.not(12);
        x.stackRoom(21);
        x.join(0, 11);
        x.stackRoom(19);
        x.pop(10);
        x.stackRoom(17);
    }
}
