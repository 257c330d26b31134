import java.lang.reflect.Constructor;
import java.lang.reflect.Field;
import java.lang.reflect.Method;
import java.lang.reflect.Modifier;
import java.util.Arrays;
import java.util.Set;
import java.util.TreeSet;

/** The public face: just the members of the document, and none that is seen beside them. */
public final class FaceTest {
    private static final String[] FACE = {
        "RunBitmaps()", "int BAD", "int BUSY", "int FULL", "int LACKS",
        "int after(int)", "int append(int, int, int)", "int copy()", "int count()", "int join(int)",
        "int not()", "int pop()", "int push(int, int)", "int room()", "int rows()", "int stackRoom()",
        "int word(int)", "int words()",
    };

    public static void main(String[] args) {
        Answers answers = new Answers();
        Set<String> seen = new TreeSet<>();
        Class<?> type = RunBitmaps.class;
        for (Constructor<?> c : type.getDeclaredConstructors()) {
            seen.add(c.getName() + parameters(c.getParameterTypes()));
        }
        for (Field f : type.getDeclaredFields()) {
            if (!Modifier.isPrivate(f.getModifiers())) {
                seen.add(f.getType().getName() + " " + f.getName());
                int all = Modifier.PUBLIC | Modifier.STATIC | Modifier.FINAL;
                answers.due("modifiers of " + f.getName(), f.getModifiers(), all);
            }
        }
        for (Method m : type.getDeclaredMethods()) {
            if (!Modifier.isPrivate(m.getModifiers())) {
                seen.add(m.getReturnType().getName() + " " + m.getName() + parameters(m.getParameterTypes()));
                answers.due("modifiers of " + m.getName(), m.getModifiers(), Modifier.PUBLIC);
            }
        }
        Set<String> want = new TreeSet<>(Arrays.asList(FACE));
        if (!seen.equals(want)) {
            System.out.println("the face is " + seen + ", due is " + want);
        }
        answers.due("the face is the document's", seen.equals(want) ? 1 : 0, 1);
        answers.due("class modifiers", type.getModifiers(), Modifier.PUBLIC | Modifier.FINAL);
        answers.due("BAD", RunBitmaps.BAD, -1);
        answers.due("BUSY", RunBitmaps.BUSY, -2);
        answers.due("FULL", RunBitmaps.FULL, -3);
        answers.due("LACKS", RunBitmaps.LACKS, -4);
        answers.end();
    }

    private static String parameters(Class<?>[] types) {
        StringBuilder text = new StringBuilder("(");
        for (int i = 0; i < types.length; i++) {
            text.append(i == 0 ? "" : ", ").append(types[i].getName());
        }
        return text.append(')').toString();
    }
}
