/** The boundary cases of the document's section 'Terms': a test for each of its sentences. */
public final class TermsEdgeTest {
    private static final int BAD = RunBitmaps.BAD;
    private static final int BUSY = RunBitmaps.BUSY;
    private static final int FULL = RunBitmaps.FULL;
    private static final int ALL = 0x7FFFFFFF;

    private final Answers answers = new Answers();

    public static void main(String[] args) {
        TermsEdgeTest test = new TermsEdgeTest();
        test.rowsAreNumberedFromNought();
        test.rowsAreAtMostAMillion();
        test.eachRowHasAValueInBothColumns();
        test.thereAreTwoColumns();
        test.valuesGoUpTo15();
        test.stackHasAtMost12Sets();
        test.groupsHave31Rows();
        test.lastGroupMayHaveLess();
        test.groupWithNoneIsEmpty();
        test.groupWithAll31IsFull();
        test.fillHasAsManyGroupsAsThereAre();
        test.fillsOfTwoKindsAreTwoWords();
        test.fillGrowsWhenAGroupIsDone();
        test.eachOtherGroupIsOneWord();
        test.bitIsForRowOfTheGroup();
        test.withoutRowsThereAreNoWords();
        test.valuesMayTake2000Words();
        test.stackMayTake3000Words();
        test.objectIsUsedFor512Calls();
        test.answers.end();
    }

    private Run run(String sentence) {
        return new Run(answers, "Terms: " + sentence);
    }

    private void rowsAreNumberedFromNought() {
        Run x = run("rows are numbered from 0");
        x.append(1, 1, 1, 1);
        x.append(2, 2, 1, 2);
        x.push(0, 1, 1);
        x.after(-1, 0);
        x.after(0, -1);
        x.word(0, 1);
        x.push(1, 2, 2);
        x.after(-1, 1);
        x.after(0, 1);
        x.word(0, 2);
    }

    private void rowsAreAtMostAMillion() {
        Run once = run("rows are at most 1000000, at once");
        once.append(0, 0, 1000000, 1000000);
        once.append(0, 0, 1, FULL);
        once.rows(1000000);
        Run last = run("rows are at most 1000000, the last one alone");
        last.append(0, 0, 999999, 999999);
        last.append(0, 0, 2, FULL);
        last.append(1, 1, 1, 1000000);
        last.append(1, 1, 1, FULL);
        last.push(0, 1, 1);
        last.after(-1, 999999);
        last.count(1);
        Run halves = run("rows are at most 1000000, in halves");
        halves.append(0, 0, 500000, 500000);
        halves.append(1, 1, 500001, FULL);
        halves.append(1, 1, 500000, 1000000);
        halves.append(0, 0, 1000000, FULL);
        halves.rows(1000000);
    }

    private void eachRowHasAValueInBothColumns() {
        Run x = run("each has in column 0 and in column 1 a value");
        x.append(3, 4, 2, 2);
        x.append(4, 3, 3, 5);
        x.set(0, 3, 0x3);
        x.set(0, 4, 0x1C);
        x.set(1, 3, 0x1C);
        x.set(1, 4, 0x3);
    }

    private void thereAreTwoColumns() {
        Run x = run("column 0 and column 1");
        x.append(3, 4, 2, 2);
        x.push(-1, 3, BAD);
        x.push(2, 3, BAD);
        x.push(0, 3, 1);
        x.push(1, 4, 2);
    }

    private void valuesGoUpTo15() {
        Run x = run("a value 0 .. 15");
        int rows = 0;
        for (int value = 0; value < 16; value++) {
            rows += value + 1;
            x.append(value, 15 - value, value + 1, rows);
        }
        x.append(16, 0, 1, BAD);
        x.append(0, 16, 1, BAD);
        x.append(-1, 0, 1, BAD);
        x.append(0, -1, 1, BAD);
        int first = 0;
        for (int value = 0; value < 16; value++) {
            x.push(0, value, 1);
            x.count(value + 1);
            x.after(-1, first);
            x.push(1, 15 - value, 2);
            x.count(value + 1);
            x.after(-1, first);
            x.pop(1);
            x.pop(0);
            first += value + 1;
        }
    }

    private void stackHasAtMost12Sets() {
        Run x = run("the stack has at most 12 sets");
        x.append(0, 0, 40, 40);
        x.pushTimes(12, 0, 0, 1);
        x.push(0, 0, FULL);
        x.push(1, 9, FULL);
        x.copy(FULL);
        x.not(12);
        x.push(0, 0, FULL);
        x.pop(11);
        x.copy(12);
        x.copy(FULL);
        x.join(1, 11);
        x.push(0, 0, 12);
        x.push(0, 0, FULL);
        x.stackRoom(24);
        for (int left = 11; left >= 0; left--) {
            x.pop(left);
        }
    }

    private void groupsHave31Rows() {
        int[] rows = {30, 31, 32, 61, 62, 63, 92, 93, 94};
        int[][] words = {
            {ALL >> 1}, {-3}, {-3, 1}, {-3, ALL >> 1}, {-5}, {-5, 1}, {-5, ALL >> 1}, {-7}, {-7, 1},
        };
        for (int i = 0; i < rows.length; i++) {
            Run x = run("groups of 31, " + rows[i] + " rows");
            x.append(6, 7, rows[i], rows[i]);
            x.set(0, 6, words[i]);
            x.set(1, 7, words[i]);
            x.set(0, 7, -2 * ((rows[i] + 30) / 31));
        }
    }

    private void lastGroupMayHaveLess() {
        for (int less = 1; less <= 30; less++) {
            Run x = run("the last group has less, " + less);
            int bits = (1 << less) - 1;
            x.append(3, 3, less, less);
            x.push(0, 3, 1);
            x.top(bits);
            x.count(less);
            x.not(1);
            x.top(-2);
            x.count(0);
            x.after(-1, -1);
            x.not(1);
            x.top(bits);
            x.after(less - 2, less - 1);
            x.after(less - 1, -1);
            Run y = run("the last group has less, two groups and " + less);
            y.append(3, 3, 62 + less, 62 + less);
            y.push(0, 4, 1);
            y.top(-6);
            y.not(1);
            y.top(-5, bits);
            y.count(62 + less);
            y.after(60 + less, 61 + less);
            y.after(61 + less, -1);
        }
    }

    private void groupWithNoneIsEmpty() {
        Run x = run("a group with none of its rows is empty");
        x.append(0, 0, 31, 31);
        x.append(1, 0, 3, 34);
        x.set(0, 2, -4);
        x.set(0, 0, -3, -2);
        x.set(0, 1, -2, 0x7);
        x.append(2, 0, 28, 62);
        x.set(0, 2, -2, 0x7FFFFFF8);
        x.set(0, 3, -4);
        x.push(0, 1, 1);
        x.push(0, 2, 2);
        x.join(0, 1);
        x.top(-4);
    }

    private void groupWithAll31IsFull() {
        for (int other = 0; other < 31; other++) {
            Run x = run("a group with all its 31 is full, all but row " + other);
            appendWithOther(x, other);
            x.push(0, 0, 1);
            x.top(ALL ^ 1 << other);
            x.push(1, 0, 2);
            x.top(-3);
            x.pop(1);
            x.push(0, 1, 2);
            x.join(1, 1);
            x.top(-3);
            x.not(1);
            x.top(-2);
        }
    }

    /** One group with value 0 in column 0, but for one row with 1. */
    private void appendWithOther(Run x, int other) {
        if (other > 0) {
            x.append(0, 0, other, other);
        }
        x.append(1, 0, 1, other + 1);
        if (other < 30) {
            x.append(0, 0, 30 - other, 31);
        }
    }

    private void fillHasAsManyGroupsAsThereAre() {
        Run most = run("groups as many as there are, the most");
        most.append(0, 0, 999998, 999998);
        most.set(0, 0, -2 * 32258 - 1);
        most.set(0, 1, -2 * 32258);
        most.append(0, 0, 2, 1000000);
        most.set(0, 0, -2 * 32258 - 1, 0x3);
        most.set(0, 1, -2 * 32259);
        Run one = run("groups as many as there are, one");
        one.append(0, 0, 31, 31);
        one.set(0, 0, -3);
        one.set(0, 1, -2);
        Run steps = run("groups as many as there are, in steps");
        for (int i = 1; i <= 400; i++) {
            steps.append(0, 0, 31, 31 * i);
        }
        steps.set(0, 0, -801);
        steps.set(0, 1, -800);
    }

    private void fillsOfTwoKindsAreTwoWords() {
        Run x = run("all empty, or all full, are one word");
        x.append(0, 0, 62, 62);
        x.append(1, 0, 93, 155);
        x.append(0, 0, 31, 186);
        x.set(0, 0, -5, -6, -3);
        x.set(0, 1, -4, -7, -2);
        x.set(1, 0, -13);
    }

    private void fillGrowsWhenAGroupIsDone() {
        Run x = run("a group that becomes full goes into the fill");
        x.append(0, 0, 31, 31);
        x.append(0, 1, 30, 61);
        x.set(0, 0, -3, ALL >> 1);
        x.append(0, 1, 1, 62);
        x.set(0, 0, -5);
        x.append(0, 1, 32, 94);
        x.set(0, 0, -7, 1);
        x.append(0, 1, 92, 186);
        x.set(0, 0, -13);
        x.set(1, 1, -2, -11);
    }

    private void eachOtherGroupIsOneWord() {
        Run x = run("each other group is one word, alike or not");
        for (int i = 0; i < 4; i++) {
            x.append(0, 0, 15, 31 * i + 15);
            x.append(1, 0, 16, 31 * i + 31);
        }
        x.set(0, 0, 0x7FFF, 0x7FFF, 0x7FFF, 0x7FFF);
        x.push(0, 0, 1);
        x.not(1);
        x.top(0x7FFF8000, 0x7FFF8000, 0x7FFF8000, 0x7FFF8000);
        x.push(0, 0, 2);
        x.join(3, 1);
        x.top(-9);
    }

    private void bitIsForRowOfTheGroup() {
        for (int row = 0; row < 31; row++) {
            Run x = run("bit k for row k of the group, " + row);
            appendWithOther(x, row);
            x.set(0, 1, 1 << row);
            x.append(0, 0, 31 + row, 62 + row);
            x.append(2, 2, 1, 63 + row);
            x.push(0, 2, 1);
            x.top(-4, 1 << row);
            x.after(-1, 62 + row);
        }
    }

    private void withoutRowsThereAreNoWords() {
        Run x = run("without rows there are no words");
        x.room(0);
        for (int column = 0; column < 2; column++) {
            for (int value = 0; value < 16; value++) {
                x.push(column, value, 1);
                x.top();
                x.word(-1, 0);
                x.stackRoom(0);
                x.pop(0);
            }
        }
        x.push(0, 0, 1);
        x.not(1);
        x.top();
        x.count(0);
        x.after(-1, -1);
        x.copy(2);
        x.top();
        for (int op = 0; op < 4; op++) {
            x.join(op, 1);
            x.top();
            x.copy(2);
        }
        x.pushTimes(10, 1, 15, 3);
        x.push(0, 0, FULL);
        x.stackRoom(0);
        x.append(0, 0, 1, BUSY);
    }

    private void valuesMayTake2000Words() {
        Run one = run("the sets of values may take 2000 words, one by one");
        one.appendCrowd();
        one.room(1998);
        one.append(2, 1, 1, 15254);
        one.room(1999);
        one.append(1, 2, 1, 15255);
        one.room(2000);
        one.append(3, 1, 1, FULL);
        one.append(1, 3, 1, FULL);
        one.room(2000);
        one.rows(15255);
        Run two = run("the sets of values may take 2000 words, two by two");
        two.appendCrowd();
        two.append(2, 2, 1, 15254);
        two.room(2000);
        two.append(3, 3, 1, FULL);
        two.room(2000);
        Run over = run("the sets of values may take 2000 words, 1999 and two");
        over.appendCrowd();
        over.append(2, 1, 1, 15254);
        over.append(3, 3, 1, FULL);
        over.room(1999);
        over.append(3, 1, 1, 15255);
        over.room(2000);
    }

    private void stackMayTake3000Words() {
        Run one = run("the sets on the stack may take 3000 words, one by one");
        one.appendStripes();
        one.pushTimes(7, 0, 0, 1);
        one.stackRoom(2996);
        one.pushTimes(4, 0, 5, 8);
        one.stackRoom(3000);
        one.push(0, 5, FULL);
        one.copy(FULL);
        one.not(FULL);
        one.stackRoom(3000);
        Run big = run("the sets on the stack may take 3000 words, a big one last");
        big.appendStripes();
        big.pushTimes(6, 0, 0, 1);
        big.pushTimes(4, 1, 5, 7);
        big.push(0, 0, 11);
        big.stackRoom(3000);
        Run over = run("the sets on the stack may take 3000 words, a big one too much");
        over.appendStripes();
        over.pushTimes(6, 0, 0, 1);
        over.pushTimes(5, 1, 5, 7);
        over.push(0, 0, FULL);
        over.stackRoom(2573);
        over.push(0, 1, 12);
        over.stackRoom(3000);
    }

    private void objectIsUsedFor512Calls() {
        Run x = run("an object is used for at most 512 calls");
        for (int i = 1; i <= 508; i++) {
            x.append(0, 0, 1, i);
        }
        x.push(0, 0, 1);
        x.words(2);
        x.count(508);
        x.after(506, 507);
        answers.due("Terms: an object is used for at most 512 calls, left", x.callsLeft(), 0);
    }
}
