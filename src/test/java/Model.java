import java.util.ArrayList;
import java.util.List;

/** What the document says, done the long way: each set with every group's bits, words made anew when asked for. */
final class Model {
    private static final int GROUPS = 1000000 / 31 + 1;

    private int rows = 0;
    private int[][] sets = new int[32][GROUPS];
    private final List<int[]> stack = new ArrayList<>();

    int append(int a, int b, int many) {
        if (a < 0 || a > 15 || b < 0 || b > 15 || many < 1 || many > 1000000) {
            return RunBitmaps.BAD;
        }
        if (!stack.isEmpty()) {
            return RunBitmaps.BUSY;
        }
        if (rows + many > 1000000) {
            return RunBitmaps.FULL;
        }
        int before = rows;
        for (int row = before; row < before + many; row++) {
            sets[a][row / 31] |= 1 << row % 31;
            sets[16 + b][row / 31] |= 1 << row % 31;
        }
        rows += many;
        if (room() > 2000) {
            for (int row = before; row < before + many; row++) {
                sets[a][row / 31] &= ~(1 << row % 31);
                sets[16 + b][row / 31] &= ~(1 << row % 31);
            }
            rows = before;
            return RunBitmaps.FULL;
        }
        return rows;
    }

    int push(int column, int value) {
        if (column < 0 || column > 1 || value < 0 || value > 15) {
            return RunBitmaps.BAD;
        }
        return withTop(0, sets[column * 16 + value]);
    }

    int copy() {
        return stack.isEmpty() ? RunBitmaps.LACKS : withTop(0, top());
    }

    int join(int op) {
        if (op < 0 || op > 3) {
            return RunBitmaps.BAD;
        }
        if (stack.size() < 2) {
            return RunBitmaps.LACKS;
        }
        int[] lower = stack.get(stack.size() - 2);
        int[] joined = new int[GROUPS];
        for (int row = 0; row < rows; row++) {
            boolean low = has(lower, row);
            boolean high = has(top(), row);
            boolean in = op == 0 ? low && high : op == 1 ? low || high : op == 2 ? low && !high : low != high;
            joined[row / 31] |= in ? 1 << row % 31 : 0;
        }
        return withTop(2, joined);
    }

    int not() {
        if (stack.isEmpty()) {
            return RunBitmaps.LACKS;
        }
        int[] others = new int[GROUPS];
        for (int row = 0; row < rows; row++) {
            others[row / 31] |= has(top(), row) ? 0 : 1 << row % 31;
        }
        return withTop(1, others);
    }

    int count() {
        return stack.isEmpty() ? -1 : countOf(top());
    }

    int after(int row) {
        if (stack.isEmpty()) {
            return -1;
        }
        for (long next = Math.max(row + 1L, 0); next < rows; next++) {
            if (has(top(), (int) next)) {
                return (int) next;
            }
        }
        return -1;
    }

    int words() {
        return stack.isEmpty() ? -1 : wordsOf(top()).size();
    }

    int word(int i) {
        if (stack.isEmpty() || i < 0) {
            return 0;
        }
        List<Integer> words = wordsOf(top());
        return i < words.size() ? words.get(i) : 0;
    }

    int pop() {
        if (stack.isEmpty()) {
            return RunBitmaps.LACKS;
        }
        stack.remove(stack.size() - 1);
        return stack.size();
    }

    int room() {
        int all = 0;
        for (int[] set : sets) {
            all += wordsOf(set).size();
        }
        return all;
    }

    int stackRoom() {
        int all = 0;
        for (int[] set : stack) {
            all += wordsOf(set).size();
        }
        return all;
    }

    int rows() {
        return rows;
    }

    private int[] top() {
        return stack.get(stack.size() - 1);
    }

    /** A set in the place of so many at the top, if the stack may then be as it is. */
    private int withTop(int gone, int[] set) {
        List<int[]> before = new ArrayList<>(stack);
        for (int i = 0; i < gone; i++) {
            stack.remove(stack.size() - 1);
        }
        stack.add(set.clone());
        if (stack.size() > 12 || stackRoom() > 3000) {
            stack.clear();
            stack.addAll(before);
            return RunBitmaps.FULL;
        }
        return stack.size();
    }

    private static boolean has(int[] set, int row) {
        return (set[row / 31] >> row % 31 & 1) == 1;
    }

    private static int countOf(int[] set) {
        int many = 0;
        for (int bits : set) {
            many += Integer.bitCount(bits);
        }
        return many;
    }

    private List<Integer> wordsOf(int[] set) {
        List<Integer> words = new ArrayList<>();
        int groups = (rows + 30) / 31;
        int at = 0;
        while (at < groups) {
            int bits = set[at];
            int run = 1;
            if (bits == 0 || bits == 0x7FFFFFFF) {
                while (at + run < groups && set[at + run] == bits) {
                    run++;
                }
            }
            words.add(bits == 0 ? -2 * run : bits == 0x7FFFFFFF ? -2 * run - 1 : bits);
            at += run;
        }
        return words;
    }
}
