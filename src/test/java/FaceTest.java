import java.lang.reflect.Constructor;
import java.lang.reflect.Field;
import java.lang.reflect.Method;
import java.lang.reflect.Modifier;
import java.util.ArrayList;
import java.util.Arrays;
import java.util.HashSet;
import java.util.List;
import java.util.Set;
import java.util.TreeSet;

/** The public face of the document, and rules 1 and 5 of LANGUAGE.md about what else there is. */
public final class FaceTest {
    private static final Set<String> FACE = new TreeSet<>(Arrays.asList(
        "int DOWN", "int CUT", "int BAD", "int ABSENT", "int FULL", "new()",
        "boolean cut(int)", "int put(int, int)", "int remove(int)", "int get(int)",
        "int next(int)", "int depth(int)", "int size()", "int nodes()", "boolean hold(int)",
        "boolean release(int)", "int heldGet(int, int)", "int heldNext(int, int)",
        "boolean crash()", "int restart(boolean)", "int events()", "int fences()"));

    public static void main(String[] args) {
        Due test = new Due("FaceTest");
        constants(test);
        face(test);
        privateNames(test);
        nested(test);
        test.finish();
    }

    private static void constants(Due test) {
        test.due("DOWN", FencedTreeHeap.DOWN, -1);
        test.due("CUT", FencedTreeHeap.CUT, -2);
        test.due("BAD", FencedTreeHeap.BAD, -3);
        test.due("ABSENT", FencedTreeHeap.ABSENT, -4);
        test.due("FULL", FencedTreeHeap.FULL, -5);
    }

    private static void face(Due test) {
        Set<String> seen = new TreeSet<>();
        for (Field field : FencedTreeHeap.class.getDeclaredFields()) {
            int is = field.getModifiers();
            if (!Modifier.isPrivate(is)) {
                test.due(field + " is a constant", Modifier.isStatic(is) && Modifier.isPublic(is), true);
                seen.add(field.getType().getSimpleName() + " " + field.getName());
            }
            test.due(field + " is not static or final", !Modifier.isStatic(is) || Modifier.isFinal(is), true);
        }
        for (Constructor<?> made : FencedTreeHeap.class.getDeclaredConstructors()) {
            test.due(made + " is public", Modifier.isPublic(made.getModifiers()), true);
            seen.add("new" + types(made.getParameterTypes()));
        }
        for (Method method : FencedTreeHeap.class.getDeclaredMethods()) {
            int is = method.getModifiers();
            if (!Modifier.isPrivate(is)) {
                test.due(method + " is public, of an object", Modifier.isPublic(is) && !Modifier.isStatic(is), true);
                test.due(method + " throws nothing", method.getExceptionTypes().length, 0);
                seen.add(method.getReturnType().getSimpleName() + " " + method.getName()
                    + types(method.getParameterTypes()));
            }
        }
        test.due("the face " + seen, seen.equals(FACE), true);
        int is = FencedTreeHeap.class.getModifiers();
        test.due("the class is public and final", Modifier.isPublic(is) && Modifier.isFinal(is), true);
    }

    private static String types(Class<?>[] types) {
        List<String> names = new ArrayList<>();
        for (Class<?> type : types) {
            names.add(type.getSimpleName());
        }
        return "(" + String.join(", ", names) + ")";
    }

    private static void privateNames(Due test) {
        Set<String> open = new HashSet<>();
        for (Method method : FencedTreeHeap.class.getMethods()) {
            open.add(method.getName());
        }
        for (Method method : FencedTreeHeap.class.getDeclaredMethods()) {
            if (Modifier.isPrivate(method.getModifiers())) {
                test.due(method + " bears a name of the face", open.contains(method.getName()), false);
            }
        }
    }

    private static void nested(Due test) {
        for (Class<?> inside : FencedTreeHeap.class.getDeclaredClasses()) {
            int is = inside.getModifiers();
            test.due(inside + " is static and not open",
                Modifier.isStatic(is) && !Modifier.isPublic(is) && !Modifier.isProtected(is), true);
        }
    }
}
