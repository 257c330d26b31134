/** Long mixed runs of calls, each answer held against the model's. */
public final class ModelTest {
    private static final int CALLS = 512;

    private final Answers answers;
    private final String name;
    private long seed;
    private final Model model = new Model();
    private final RunBitmaps object = new RunBitmaps();
    private int calls = 0;

    private ModelTest(Answers answers, String name, long seed) {
        this.answers = answers;
        this.name = name + " " + seed;
        this.seed = seed * 7919 + 13;
    }

    public static void main(String[] args) {
        Answers answers = new Answers();
        for (int seed = 0; seed < 150; seed++) {
            new ModelTest(answers, "mixed", seed).mixed(seed % 5);
        }
        for (int seed = 0; seed < 40; seed++) {
            new ModelTest(answers, "crowded", seed).crowded(seed % 4);
        }
        for (int seed = 0; seed < 30; seed++) {
            new ModelTest(answers, "stacked", seed).stacked();
        }
        answers.end();
    }

    /** The same numbers in every run of the tests: below a bound. */
    private int draw(int bound) {
        seed = seed * 6364136223846793005L + 1442695040888963407L;
        return (int) ((seed >>> 33) % bound);
    }

    private void mixed(int kind) {
        int values = 1 + draw(16);
        while (calls < CALLS) {
            int appends = draw(12);
            for (int i = 0; i < appends; i++) {
                append(draw(values), draw(values), many(kind));
            }
            room();
            int moves = draw(25);
            for (int i = 0; i < moves; i++) {
                move(values);
                look();
            }
            if (draw(6) == 0) {
                wrongInput();
            }
            for (int i = 0; i < 12 && draw(20) != 0; i++) {
                pop();
            }
        }
    }

    /** Appends up to the limit of the words, and around it. */
    private void crowded(int kind) {
        int values = kind == 0 ? 16 : 2 + draw(3);
        while (calls < CALLS) {
            append(draw(values), kind == 3 ? 0 : draw(values), kind == 1 ? 1 + draw(4) : 1 + draw(70));
            if (draw(10) == 0) {
                room();
            }
            if (draw(40) == 0) {
                push(draw(2), draw(values));
                look();
                not();
                look();
                pop();
            }
        }
    }

    /** Sets of many words, and the stack up to the limit of its words, and around it. */
    private void stacked() {
        int steps = 200 + draw(130);
        for (int i = 0; i < steps; i++) {
            append(i % 2, 0, draw(3) == 0 ? 1 + draw(20) : 33 + draw(70));
        }
        room();
        while (calls < CALLS) {
            int which = draw(8);
            if (which < 3) {
                push(0, draw(2));
            } else if (which < 5) {
                push(0, 2 + draw(3));
            } else if (which < 7) {
                not();
            } else {
                move(2);
            }
            stackRoom();
            if (draw(4) == 0) {
                look();
            }
        }
    }

    private int many(int kind) {
        switch (kind) {
            case 0: return 1 + draw(5);
            case 1: return 1 + draw(70);
            case 2: return 31 * (1 + draw(3)) + draw(3) - 1;
            case 3: return draw(3) == 0 ? 31 - model.rows() % 31 : 1 + draw(200);
            default: return draw(4) == 0 ? 1 + draw(40000) : 1 + draw(100);
        }
    }

    private void move(int values) {
        switch (draw(10)) {
            case 0: case 1: case 2: case 3: push(draw(2), draw(values)); break;
            case 4: copy(); break;
            case 5: not(); break;
            case 6: case 7: case 8: join(draw(4)); break;
            default: pop();
        }
    }

    private void look() {
        switch (draw(6)) {
            case 0: count(); break;
            case 1: after(draw(model.rows() + 3) - 1); break;
            case 2: words(); break;
            case 3: word(draw(Math.max(model.words(), 0) + 2) - 1); break;
            case 4: stackRoom(); break;
            default: rows();
        }
    }

    private void wrongInput() {
        int bad = draw(2) == 0 ? -1 - draw(3) : 1000001 + draw(3);
        switch (draw(7)) {
            case 0: append(bad, 0, 1); break;
            case 1: append(0, bad, 1); break;
            case 2: append(0, 0, bad); break;
            case 3: push(bad, 0); break;
            case 4: push(0, bad); break;
            case 5: join(bad); break;
            default: word(bad);
        }
    }

    private boolean mayCall() {
        return calls++ < CALLS;
    }

    private void due(String call, int got, int want) {
        answers.due(name + ", call " + calls + ", " + call, got, want);
    }

    private void append(int a, int b, int many) {
        if (mayCall()) {
            due("append(" + a + ", " + b + ", " + many + ")", object.append(a, b, many), model.append(a, b, many));
        }
    }

    private void push(int column, int value) {
        if (mayCall()) {
            due("push(" + column + ", " + value + ")", object.push(column, value), model.push(column, value));
        }
    }

    private void copy() {
        if (mayCall()) {
            due("copy()", object.copy(), model.copy());
        }
    }

    private void join(int op) {
        if (mayCall()) {
            due("join(" + op + ")", object.join(op), model.join(op));
        }
    }

    private void not() {
        if (mayCall()) {
            due("not()", object.not(), model.not());
        }
    }

    private void count() {
        if (mayCall()) {
            due("count()", object.count(), model.count());
        }
    }

    private void after(int row) {
        if (mayCall()) {
            due("after(" + row + ")", object.after(row), model.after(row));
        }
    }

    private void words() {
        if (mayCall()) {
            due("words()", object.words(), model.words());
        }
    }

    private void word(int i) {
        if (mayCall()) {
            due("word(" + i + ")", object.word(i), model.word(i));
        }
    }

    private void pop() {
        if (mayCall()) {
            due("pop()", object.pop(), model.pop());
        }
    }

    private void room() {
        if (mayCall()) {
            due("room()", object.room(), model.room());
        }
    }

    private void stackRoom() {
        if (mayCall()) {
            due("stackRoom()", object.stackRoom(), model.stackRoom());
        }
    }

    private void rows() {
        if (mayCall()) {
            due("rows()", object.rows(), model.rows());
        }
    }
}
