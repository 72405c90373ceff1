import java.io.IOException;
import java.lang.reflect.Method;
import java.lang.reflect.Modifier;
import java.nio.file.Files;
import java.nio.file.Path;
import java.util.List;
import java.util.regex.Matcher;
import java.util.regex.Pattern;

/** That README.md tells the truth: its example is run, its table is held against the face. */
public final class ReadmeTest {
    private static final Pattern MADE = Pattern.compile("FencedTreeHeap map = new FencedTreeHeap\\(\\);");
    private static final Pattern CALL = Pattern.compile("map\\.(\\w+)\\((.*?)\\);\\s+// (-?\\d+|true|false): .*");
    private static final Pattern ROW = Pattern.compile("\\| `(\\w+)\\((.*?)\\)` \\|.*\\|(.*)\\|");
    private static final List<String> CAN_ANSWER_FALSE = List.of("hold", "release", "cut", "crash");

    public static void main(String[] args) throws IOException, ReflectiveOperationException {
        Due test = new Due("ReadmeTest");
        String text = Files.readString(Path.of("README.md"));
        example(test, text);
        table(test, text);
        codes(test, text);
        test.finish();
    }

    private static void example(Due test, String text) throws ReflectiveOperationException {
        int from = text.indexOf("```java\n") + "```java\n".length();
        FencedTreeHeap map = new FencedTreeHeap();
        for (String line : text.substring(from, text.indexOf("```", from)).split("\n")) {
            if (line.isEmpty() || MADE.matcher(line).matches()) {
                continue;
            }
            Matcher call = CALL.matcher(line);
            boolean isCall = call.matches();
            test.due("a call with its answer: " + line, isCall, true);
            if (isCall) {
                test.due(line, answer(map, call.group(1), call.group(2)), call.group(3));
            }
        }
    }

    private static String answer(FencedTreeHeap map, String name, String given)
            throws ReflectiveOperationException {
        Method method = method(name);
        String[] words = given.isEmpty() ? new String[0] : given.split(", ");
        Object[] arguments = new Object[words.length];
        for (int i = 0; i < words.length; i++) {
            boolean isInt = method.getParameterTypes()[i] == int.class;
            arguments[i] = isInt ? (Object) Integer.valueOf(words[i]) : (Object) Boolean.valueOf(words[i]);
        }
        return String.valueOf(method.invoke(map, arguments));
    }

    private static Method method(String name) throws NoSuchMethodException {
        for (Method method : FencedTreeHeap.class.getDeclaredMethods()) {
            if (method.getName().equals(name) && Modifier.isPublic(method.getModifiers())) {
                return method;
            }
        }
        throw new NoSuchMethodException(name);
    }

    private static void table(Due test, String text) throws ReflectiveOperationException {
        int rows = 0;
        Matcher row = ROW.matcher(text);
        while (row.find()) {
            rows++;
            Method method = method(row.group(1));
            int given = row.group(2).isEmpty() ? 0 : row.group(2).split(", ").length;
            test.due("arguments of " + row.group(1), given, method.getParameterCount());
            boolean orFalse = row.group(3).trim().equals("false");
            test.due(row.group(1) + " or false", orFalse, CAN_ANSWER_FALSE.contains(row.group(1)));
            test.due(row.group(1) + " answers a boolean", method.getReturnType() == boolean.class, orFalse);
        }
        int calls = 0;
        for (Method method : FencedTreeHeap.class.getDeclaredMethods()) {
            if (Modifier.isPublic(method.getModifiers())) {
                calls++;
                test.due("a row of " + method.getName(),
                    text.contains("| `" + method.getName() + "("), true);
            }
        }
        test.due("rows of the table", rows, calls);
    }

    private static void codes(Due test, String text) {
        String codes = "`DOWN` is " + FencedTreeHeap.DOWN + ", `CUT` " + FencedTreeHeap.CUT
            + ", `BAD` " + FencedTreeHeap.BAD + ", `ABSENT` " + FencedTreeHeap.ABSENT
            + ", `FULL` " + FencedTreeHeap.FULL + ".";
        test.due(codes, text.contains(codes), true);
    }
}
