import java.io.IOException;
import java.lang.reflect.Field;
import java.lang.reflect.Method;
import java.lang.reflect.Modifier;
import java.nio.file.Files;
import java.nio.file.Path;
import java.util.ArrayList;
import java.util.List;
import java.util.regex.Matcher;
import java.util.regex.Pattern;

/** Those rules of LANGUAGE.md that can be seen from the text of the class or from its members. */
public final class LanguageTest {
    private static final Path SOURCE = Path.of("src/main/java/FencedTreeHeap.java");
    private static final String[] NOT_USED = {
        "package", "import", "synchronized", "assert", "finally", "try", "catch", "throw", "throws", "native",
        "volatile", "Thread", "Runtime", "Random", "Object", "hashCode", "equals", "toString", "getClass",
    };

    public static void main(String[] args) throws IOException {
        Due test = new Due("LanguageTest");
        String text = Files.readString(SOURCE).replaceAll("(?s)/\\*.*?\\*/", "").replaceAll("//[^\n]*", "");
        words(test, text);
        library(test, text);
        methodLengths(test, Files.readAllLines(SOURCE));
        for (Class<?> inside : classes(test)) {
            members(test, inside);
        }
        test.finish();
    }

    // The class needs none of what these words stand for, so that rules 4, 6 and 13 cannot be broken.
    private static void words(Due test, String text) {
        for (String word : NOT_USED) {
            test.due("the word " + word, Pattern.compile("\\b" + word + "\\b").matcher(text).find(), false);
        }
        test.due("a lambda (rule 2)", text.contains("->"), false);
        test.due("a method reference (rule 2)", text.contains("::"), false);
        test.due("a static initialiser (rule 5)", Pattern.compile("static\\s*\\{").matcher(text).find(), false);
        test.due("a loop without a condition (rule 9)",
            Pattern.compile("while \\(true\\)|for \\(;;|; ;").matcher(text).find(), false);
    }

    private static void library(Due test, String text) {
        Matcher call = Pattern.compile("\\b(System|Math|Integer|Long|Arrays|String)\\.(\\w+)").matcher(text);
        while (call.find()) {
            test.due(call.group() + " (rule 4)", call.group().equals("System.arraycopy"), true);
        }
    }

    private static void methodLengths(Due test, List<String> lines) {
        Pattern head = Pattern.compile("( {4}| {8})(public|private|static|final|int|boolean|void)\\b[^;=]*\\) \\{");
        int methods = 0;
        for (int i = 0; i < lines.size(); i++) {
            Matcher found = head.matcher(lines.get(i));
            if (found.matches()) {
                int end = lines.subList(i, lines.size()).indexOf(found.group(1) + "}");
                test.due("lines of " + lines.get(i).trim() + " (rule 11)", end > 0 && end <= 60, true);
                methods++;
            }
        }
        test.due("methods were found", methods > 20, true);
    }

    private static List<Class<?>> classes(Due test) {
        List<Class<?>> all = new ArrayList<>();
        all.add(FencedTreeHeap.class);
        for (int i = 0; i < all.size(); i++) {
            all.addAll(List.of(all.get(i).getDeclaredClasses()));
        }
        test.due("classes (rule 11)", all.size() <= 12, true);
        return all;
    }

    private static void members(Due test, Class<?> inside) {
        int fields = 0;
        for (Field field : inside.getDeclaredFields()) {
            int is = field.getModifiers();
            fields += Modifier.isStatic(is) ? 0 : 1;
            test.due(field + " (rule 5)", !Modifier.isStatic(is) || Modifier.isFinal(is), true);
            test.due(field + " is constant (rule 5)", !Modifier.isStatic(is) || field.getType() == int.class, true);
        }
        test.due("fields of " + inside + " (rule 11)", fields <= 20, true);
        for (Method method : inside.getDeclaredMethods()) {
            test.due(method + " (rule 11)", method.getParameterCount() <= 7, true);
            test.due(method + " (rule 2)", method.isSynthetic(), false);
            boolean bearsName = inside != FencedTreeHeap.class && isOfTheFace(method.getName());
            test.due(method + " (rule 1)", bearsName && Modifier.isPrivate(method.getModifiers()), false);
        }
    }

    private static boolean isOfTheFace(String name) {
        for (Method method : FencedTreeHeap.class.getDeclaredMethods()) {
            if (Modifier.isPublic(method.getModifiers()) && method.getName().equals(name)) {
                return true;
            }
        }
        return false;
    }
}
