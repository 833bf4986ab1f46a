import java.io.IOException;
import java.lang.reflect.InvocationTargetException;
import java.lang.reflect.Method;
import java.nio.file.Files;
import java.nio.file.Path;
import java.util.regex.Matcher;
import java.util.regex.Pattern;

/** The calls that README.md shows, in their order, each with the answer that its comment begins with. */
public final class ReadmeTest {
    private static final Pattern CALL =
        Pattern.compile("(?m)^(x\\.(\\w+)|tell)\\(([^)]*)\\);\\s+// (-?\\d+|true|false)\\b");

    public static void main(String[] args) throws IOException, ReflectiveOperationException {
        String text = Files.readString(Path.of(args[0]));
        Talk.due("calls without an answer", text.split("(?m)^(?:x\\.|tell\\()", -1).length - 1,
            CALL.matcher(text).results().count());
        WrittenMoves x = new WrittenMoves();
        Matcher call = CALL.matcher(text);
        int calls = 0;
        while (call.find()) {
            Object got = call.group(2) == null ? tell(x, call.group(3)) : answer(x, call.group(2), call.group(3));
            Talk.dueWord(call.group(), "" + got, call.group(4));
            calls++;
        }
        Talk.due("calls shown", calls > 30, true);
        Talk.finish("ReadmeTest");
    }

    private static Object tell(WrittenMoves x, String arguments) {
        String[] parts = arguments.split(", ", 4);
        x.end(0);
        return Talk.tell(x, number(parts[1]), number(parts[2]), parts[3].substring(1, parts[3].length() - 1));
    }

    private static Object answer(WrittenMoves x, String name, String arguments)
            throws IllegalAccessException, InvocationTargetException {
        String[] parts = arguments.split(", ");
        for (Method method : WrittenMoves.class.getMethods()) {
            if (method.getName().equals(name) && method.getParameterCount() == parts.length) {
                Object[] values = new Object[parts.length];
                for (int k = 0; k < parts.length; k++) {
                    boolean flag = method.getParameterTypes()[k] == boolean.class;
                    values[k] = flag ? (Object) Boolean.valueOf(parts[k]) : (Object) number(parts[k]);
                }
                return method.invoke(x, values);
            }
        }
        return "no such call";
    }

    private static int number(String word) {
        return word.equals("WrittenMoves.NONE") ? WrittenMoves.NONE : Integer.decode(word);
    }
}
