import java.io.IOException;
import java.lang.reflect.InvocationTargetException;
import java.lang.reflect.Method;
import java.nio.file.Files;
import java.nio.file.Path;
import java.util.regex.Matcher;
import java.util.regex.Pattern;

/** The example in README.md: each of its calls, on one object, answers what stands behind it. */
public final class ReadmeTest {
    private static final Pattern CALL =
        Pattern.compile("board\\.(\\w+)\\((.*)\\); +// (throws \\w+|-?[0-9.]+)(:.*)?");

    public static void main(String[] args) throws IOException, IllegalAccessException {
        DroopBoard board = new DroopBoard();
        int calls = 0;
        for (String line : example(Files.readString(Path.of("README.md"))).lines().toList()) {
            Matcher call = CALL.matcher(line);
            if (call.matches()) {
                Check.due(line, answer(board, call.group(1), call.group(2)), call.group(3));
                calls++;
            } else {
                Check.due("a line without a call", isOther(line) ? "" : line, "");
            }
        }
        Check.due("the example has calls", calls > 0 ? 1 : 0, 1);
        Check.end("ReadmeTest");
    }

    private static String example(String text) {
        Matcher block = Pattern.compile("(?s)```java\n(.*?)```").matcher(text);
        return block.find() ? block.group(1) : "";
    }

    private static boolean isOther(String line) {
        return line.isEmpty() || line.startsWith("// ") || line.equals("DroopBoard board = new DroopBoard();");
    }

    private static String answer(DroopBoard board, String name, String arguments) throws IllegalAccessException {
        String[] texts = arguments.isEmpty() ? new String[0] : arguments.split(", *");
        Object[] values = new Object[texts.length];
        for (int i = 0; i < texts.length; i++) {
            values[i] = texts[i].startsWith("'") ? texts[i].charAt(1) : Integer.parseInt(texts[i]);
        }
        for (Method method : DroopBoard.class.getMethods()) {
            if (method.getName().equals(name) && method.getDeclaringClass() == DroopBoard.class) {
                return answer(board, method, values);
            }
        }
        return "there is no such call";
    }

    private static String answer(DroopBoard board, Method method, Object[] values) throws IllegalAccessException {
        try {
            return String.valueOf(method.invoke(board, values));
        } catch (InvocationTargetException e) {
            return "throws " + e.getCause().getClass().getSimpleName();
        }
    }
}
