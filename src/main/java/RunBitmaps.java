/**
 * Rows of two small values, and for each value the set of rows that have it, kept in words of runs;
 * sets on a stack that are joined, cut and turned about without ever being unpacked into rows.
 */
public final class RunBitmaps {
    public static final int BAD = -1;
    public static final int BUSY = -2;
    public static final int FULL = -3;
    public static final int LACKS = -4;

    private static final int MAX_ROWS = 1000000;
    private static final int COLUMNS = 2;
    private static final int VALUES = 16;
    private static final int MAX_ROOM = 2000;
    private static final int MAX_SETS = 12;
    private static final int MAX_STACK_ROOM = 3000;

    private static final int IN_BOTH = 0;
    private static final int IN_ONE_AT_LEAST = 1;
    private static final int IN_LOWER_ALONE = 2;
    private static final int IN_JUST_ONE = 3;

    private static final int GROUP = 31;
    private static final int NO_ROWS = 0;
    private static final int ALL_ROWS = 0x7FFFFFFF;

    // An append can split the fill at a set's end, and add a full fill and a literal behind it.
    private static final int MOST_NEW_WORDS = 3;
    // A draft may go beyond the limit before it is weighed: words also vanish when a fill grows.
    private static final int DRAFT_ROOM = MAX_ROOM + COLUMNS * VALUES * MOST_NEW_WORDS;

    private Shelf columns = new Shelf(COLUMNS * VALUES, DRAFT_ROOM);
    private Shelf draft = new Shelf(COLUMNS * VALUES, DRAFT_ROOM);
    private final Shelf stack = new Shelf(MAX_SETS, MAX_STACK_ROOM);
    // Turning a set about makes at most one word more than it had.
    private final Shelf result = new Shelf(1, MAX_STACK_ROOM + 1);
    private int rowCount = 0;

    public RunBitmaps() {
        for (int set = 0; set < COLUMNS * VALUES; set++) {
            columns.open();
        }
    }

    public int append(int a, int b, int many) {
        if (!isValue(a) || !isValue(b) || many < 1 || many > MAX_ROWS) {
            return BAD;
        }
        if (stack.sets > 0) {
            return BUSY;
        }
        if (many > MAX_ROWS - rowCount) {
            return FULL;
        }
        draft.clear();
        draftColumn(0, a, many);
        draftColumn(1, b, many);
        if (draft.used() > MAX_ROOM) {
            return FULL;
        }
        Shelf old = columns;
        columns = draft;
        draft = old;
        rowCount += many;
        return rowCount;
    }

    public int push(int column, int value) {
        if (column < 0 || column >= COLUMNS || !isValue(value)) {
            return BAD;
        }
        return stackUp(columns, column * VALUES + value);
    }

    public int copy() {
        if (stack.sets < 1) {
            return LACKS;
        }
        return stackUp(stack, stack.sets - 1);
    }

    public int join(int op) {
        if (op < IN_BOTH || op > IN_JUST_ONE) {
            return BAD;
        }
        if (stack.sets < 2) {
            return LACKS;
        }
        result.clear();
        result.open();
        result.addJoined(stack, stack.sets - 2, stack.sets - 1, op);
        return replaceTop(2);
    }

    public int not() {
        if (stack.sets < 1) {
            return LACKS;
        }
        result.clear();
        result.open();
        result.addOthers(stack, stack.sets - 1, rowCount % GROUP);
        return replaceTop(1);
    }

    public int count() {
        return stack.sets < 1 ? -1 : stack.rowsOf(stack.sets - 1);
    }

    public int after(int row) {
        // A row at or beyond the last one is sorted out here, so that row + 1 can't wrap around.
        if (stack.sets < 1 || row >= rowCount) {
            return -1;
        }
        return stack.firstFrom(stack.sets - 1, Math.max(row, -1) + 1);
    }

    public int words() {
        return stack.sets < 1 ? -1 : stack.size(stack.sets - 1);
    }

    public int word(int i) {
        return stack.sets < 1 ? 0 : stack.wordOf(stack.sets - 1, i);
    }

    public int pop() {
        if (stack.sets < 1) {
            return LACKS;
        }
        stack.drop();
        return stack.sets;
    }

    public int room() {
        return columns.used();
    }

    public int stackRoom() {
        return stack.used();
    }

    public int rows() {
        return rowCount;
    }

    private static boolean isValue(int value) {
        return value >= 0 && value < VALUES;
    }

    /** Drafts the sets of one column as they are with so many rows more of one value. */
    private void draftColumn(int column, int given, int many) {
        for (int value = 0; value < VALUES; value++) {
            draft.open();
            draft.addSet(columns, column * VALUES + value);
            draft.addRows(value == given, rowCount % GROUP, many);
        }
    }

    private int stackUp(Shelf from, int set) {
        if (stack.sets >= MAX_SETS || stack.used() + from.size(set) > MAX_STACK_ROOM) {
            return FULL;
        }
        stack.open();
        stack.addSet(from, set);
        return stack.sets;
    }

    /** The result takes the place of so many sets at the top, if the stack then has room for it. */
    private int replaceTop(int sets) {
        int below = stack.startOf(stack.sets - sets);
        if (below + result.used() > MAX_STACK_ROOM) {
            return FULL;
        }
        for (int gone = 0; gone < sets; gone++) {
            stack.drop();
        }
        stack.open();
        stack.addSet(result, 0);
        return stack.sets;
    }

    // Words are kept as the face shows them: above 0 a literal, below 0 a fill.

    private static int fillOf(int bits, int groups) {
        return bits == ALL_ROWS ? -2 * groups - 1 : -2 * groups;
    }

    private static int groupsOf(int word) {
        return word < 0 ? -word / 2 : 1;
    }

    /** The bits that each group of a word has. */
    private static int bitsOf(int word) {
        if (word >= 0) {
            return word;
        }
        return (word & 1) == 1 ? ALL_ROWS : NO_ROWS;
    }

    private static int firstBits(int many) {
        return (1 << many) - 1;
    }

    private static int joinedBits(int op, int lower, int upper) {
        switch (op) {
            case IN_BOTH:
                return lower & upper;
            case IN_ONE_AT_LEAST:
                return lower | upper;
            case IN_LOWER_ALONE:
                return lower & ~upper;
            default:
                return lower ^ upper;
        }
    }

    /** Sets that lie one behind the other in one row of words; only the last one can change. */
    private static final class Shelf {
        private final int[] line;
        // Set k lies from bounds[k] up to bounds[k + 1].
        private final int[] bounds;
        private int sets = 0;

        Shelf(int maxSets, int maxWords) {
            line = new int[maxWords];
            bounds = new int[maxSets + 1];
        }

        void clear() {
            sets = 0;
        }

        /** A new last set, yet without words. */
        void open() {
            if (sets + 1 < bounds.length) {
                bounds[sets + 1] = bounds[sets];
                sets++;
            }
        }

        void drop() {
            if (sets > 0) {
                sets--;
            }
        }

        int used() {
            return bounds[sets];
        }

        int startOf(int set) {
            return bounds[Math.max(0, Math.min(set, sets))];
        }

        int size(int set) {
            return startOf(set + 1) - startOf(set);
        }

        int wordOf(int set, int i) {
            return i < 0 || i >= size(set) ? 0 : line[startOf(set) + i];
        }

        int rowsOf(int set) {
            int found = 0;
            int end = startOf(set + 1);
            for (int at = startOf(set); at < end; at++) {
                found += Integer.bitCount(bitsOf(line[at])) * groupsOf(line[at]);
            }
            return found;
        }

        /** The first row of a set from a row on, -1 when there is none. */
        int firstFrom(int set, int row) {
            int end = startOf(set + 1);
            int base = 0;
            for (int at = startOf(set); at < end; at++) {
                int next = base + groupsOf(line[at]) * GROUP;
                int found = row < next ? firstInWord(line[at], Math.max(row - base, 0)) : -1;
                if (found >= 0) {
                    return base + found;
                }
                base = next;
            }
            return -1;
        }

        private static int firstInWord(int word, int skipped) {
            int bits = bitsOf(word);
            if (bits == ALL_ROWS) {
                return skipped;
            }
            int rest = bits & ~firstBits(skipped);
            return rest == 0 ? -1 : Integer.numberOfTrailingZeros(rest);
        }

        void addSet(Shelf from, int set) {
            int many = from.size(set);
            if (sets > 0 && many <= line.length - used()) {
                System.arraycopy(from.line, from.startOf(set), line, used(), many);
                bounds[sets] += many;
            }
        }

        /** Rows more behind a last group that has so many, 0 when it is whole. */
        void addRows(boolean inSet, int begun, int many) {
            int bits = inSet ? ALL_ROWS : NO_ROWS;
            int rest = many;
            if (begun > 0) {
                int here = Math.min(GROUP - begun, many);
                addGroups(takeGroup() | (bits & firstBits(here)) << begun, 1);
                rest -= here;
            }
            addGroups(bits, rest / GROUP);
            if (rest % GROUP > 0) {
                addGroups(bits & firstBits(rest % GROUP), 1);
            }
        }

        void addJoined(Shelf from, int lowerSet, int upperSet, int op) {
            int lower = from.startOf(lowerSet);
            int upper = from.startOf(upperSet);
            int lowerEnd = from.startOf(lowerSet + 1);
            int upperEnd = from.startOf(upperSet + 1);
            int lowerLeft = from.groupsAt(lower);
            int upperLeft = from.groupsAt(upper);
            // Each step ends a word of one set at least.
            int mostSteps = lowerEnd - lower + upperEnd - upper;
            for (int step = 0; step < mostSteps && lower < lowerEnd && upper < upperEnd; step++) {
                int alike = Math.min(lowerLeft, upperLeft);
                addGroups(joinedBits(op, bitsOf(from.line[lower]), bitsOf(from.line[upper])), alike);
                lowerLeft -= alike;
                upperLeft -= alike;
                if (lowerLeft == 0) {
                    lower++;
                    lowerLeft = from.groupsAt(lower);
                }
                if (upperLeft == 0) {
                    upper++;
                    upperLeft = from.groupsAt(upper);
                }
            }
        }

        private int groupsAt(int at) {
            return at < used() ? groupsOf(line[at]) : 0;
        }

        /** All rows that a set has not, when its last group has so many, 0 when it is whole. */
        void addOthers(Shelf from, int set, int begun) {
            int end = from.startOf(set + 1);
            for (int at = from.startOf(set); at < end; at++) {
                addGroups(bitsOf(from.line[at]) ^ ALL_ROWS, groupsOf(from.line[at]));
            }
            if (begun > 0) {
                addGroups(takeGroup() & firstBits(begun), 1);
            }
        }

        /** Groups with the same bits; more than one only when they are all empty or all full. */
        private void addGroups(int bits, int groups) {
            if (groups < 1) {
                return;
            }
            if (bits != NO_ROWS && bits != ALL_ROWS) {
                addWord(bits);
                return;
            }
            int last = lastWord();
            if (last < 0 && bitsOf(last) == bits) {
                line[used() - 1] = fillOf(bits, groupsOf(last) + groups);
            } else {
                addWord(fillOf(bits, groups));
            }
        }

        /** Takes the last group away: its bits. */
        private int takeGroup() {
            int last = lastWord();
            if (last == 0) {
                return NO_ROWS;
            }
            if (groupsOf(last) > 1) {
                line[used() - 1] = fillOf(bitsOf(last), groupsOf(last) - 1);
            } else {
                bounds[sets]--;
            }
            return bitsOf(last);
        }

        /** The last word of the last set; 0, which is no word, when it has none. */
        private int lastWord() {
            return sets < 1 || size(sets - 1) < 1 ? 0 : line[used() - 1];
        }

        private void addWord(int word) {
            if (sets > 0 && used() < line.length) {
                line[used()] = word;
                bounds[sets]++;
            }
        }
    }
}
