import java.io.IOException;
import java.lang.reflect.Method;
import java.nio.file.Files;
import java.nio.file.Path;
import java.util.regex.Matcher;
import java.util.regex.Pattern;

/** The calls of README.md's example, made as they stand there, have the answers that are told behind them. */
public final class ReadmeTest {
    private static final Pattern CALL = Pattern.compile("x\\.(\\w+)\\(([^)]*)\\);\\s*// (-?\\d+|[A-Z]+)(:.*)?");

    public static void main(String[] args) throws IOException, ReflectiveOperationException {
        Answers answers = new Answers();
        RunBitmaps object = new RunBitmaps();
        for (String line : Files.readAllLines(Path.of("README.md"))) {
            if (line.startsWith("x.")) {
                Matcher call = CALL.matcher(line);
                answers.due("can be read: " + line, call.matches() ? 1 : 0, 1);
                if (call.matches()) {
                    answers.due(line, answer(object, call.group(1), call.group(2)), told(call.group(3)));
                }
            }
        }
        answers.end();
    }

    private static int answer(RunBitmaps object, String name, String list) throws ReflectiveOperationException {
        String[] texts = list.isEmpty() ? new String[0] : list.split(", ");
        Class<?>[] types = new Class<?>[texts.length];
        Object[] numbers = new Object[texts.length];
        for (int i = 0; i < texts.length; i++) {
            types[i] = int.class;
            numbers[i] = Integer.valueOf(texts[i]);
        }
        Method method = RunBitmaps.class.getMethod(name, types);
        return (Integer) method.invoke(object, numbers);
    }

    private static int told(String text) throws ReflectiveOperationException {
        boolean named = Character.isLetter(text.charAt(0));
        return named ? RunBitmaps.class.getField(text).getInt(null) : Integer.parseInt(text);
    }
}
