import java.lang.reflect.Constructor;
import java.lang.reflect.Field;
import java.lang.reflect.Method;
import java.lang.reflect.Modifier;
import java.util.Arrays;
import java.util.Set;
import java.util.TreeSet;

/** The public face is the document's, and rules 1 and 5 of the language hold for what stands behind it. */
public final class FaceTest {
    private static final String[] METHODS = {
        "boolean append(int, int) IndexOutOfBounds IllegalArgument IllegalState",
        "int dropFirst(int) IndexOutOfBounds NoSuchElement",
        "int fill(int, int, int, int) IndexOutOfBounds IllegalArgument",
        "int clear(int) IndexOutOfBounds",
        "int size(int) IndexOutOfBounds",
        "int at(int, int) IndexOutOfBounds",
        "int digest(int) IndexOutOfBounds",
        "boolean isSame(int, int) IndexOutOfBounds",
        "int open(int, int, int, int) IndexOutOfBounds IllegalArgument",
        "boolean close(int) IndexOutOfBounds",
        "boolean isOpen(int) IndexOutOfBounds",
        "int rowOf(int) IndexOutOfBounds IllegalState",
        "int kindOf(int) IndexOutOfBounds IllegalState",
        "boolean hasNext(int) IndexOutOfBounds IllegalState",
        "int next(int) IndexOutOfBounds IllegalState",
        "int hasPrevious(int) IndexOutOfBounds IllegalState",
        "int previous(int) IndexOutOfBounds IllegalState",
        "int nextPlace(int) IndexOutOfBounds IllegalState",
        "int previousPlace(int) IndexOutOfBounds IllegalState",
        "int remove(int) IndexOutOfBounds IllegalState",
        "int replace(int, int) IndexOutOfBounds IllegalArgument IllegalState",
        "int insert(int, int) IndexOutOfBounds IllegalArgument IllegalState",
        "int rest(int) IndexOutOfBounds IllegalState",
        "int sieve(int, int, int) IndexOutOfBounds IllegalArgument",
        "int unlike(int) IndexOutOfBounds",
        "int turn(int) IndexOutOfBounds IllegalArgument",
        "int twice(int) IndexOutOfBounds IllegalArgument IllegalState",
        "int merge(int, int, int) IndexOutOfBounds IllegalArgument IllegalState",
        "int type(long) IllegalState",
        "int clearText()",
        "int textLength()",
        "int example(int) IllegalArgument",
        "int errorKind()",
        "int errorPlace()",
        "int play(int) IndexOutOfBounds IllegalState",
        "int errors(int) IndexOutOfBounds",
        "double meanValue(int) IndexOutOfBounds",
        "float openShare()",
    };
    private static final String[] CONSTANTS = {"NONE -1", "ARRAY 0", "LINKED 1", "SORTED 2", "DEQUE 3", "LIST 0",
        "VIEW 1", "FORTH 2", "BACK 3", "NO_ELEMENT -10001", "NO_STATE -10002", "UNSUPPORTED -10003"};

    public static void main(String[] args) throws IllegalAccessException {
        Class<?> face = CursorBench.class;
        Check.due("the class", Modifier.toString(face.getModifiers()), "public final");
        Check.due("the methods", publicMethods(face), new TreeSet<>(Arrays.asList(METHODS)));
        Check.due("the constants", publicConstants(face), new TreeSet<>(Arrays.asList(CONSTANTS)));
        for (Constructor<?> made : face.getDeclaredConstructors()) {
            Check.due("the constructor", made.toString(), "public CursorBench()");
        }
        Set<String> names = new TreeSet<>();
        for (String method : METHODS) {
            names.add(method.substring(method.indexOf(' ') + 1, method.indexOf('(')));
        }
        behindTheFace(face, names);
        for (Class<?> inside : face.getDeclaredClasses()) {
            Check.due(inside + " is private and static", inside.getModifiers()
                    & (Modifier.PRIVATE | Modifier.STATIC), Modifier.PRIVATE | Modifier.STATIC);
            behindTheFace(inside, names);
        }
        Check.end("FaceTest");
    }

    private static Set<String> publicMethods(Class<?> face) {
        Set<String> methods = new TreeSet<>();
        for (Method method : face.getDeclaredMethods()) {
            if (Modifier.toString(method.getModifiers()).equals("public")) {
                methods.add(shown(method));
            }
        }
        return methods;
    }

    private static String shown(Method method) {
        StringBuilder shown = new StringBuilder();
        shown.append(method.getReturnType()).append(' ').append(method.getName());
        shown.append(Arrays.toString(method.getParameterTypes()).replace('[', '(').replace(']', ')'));
        for (Class<?> thrown : method.getExceptionTypes()) {
            shown.append(' ').append(thrown.getSimpleName().replace("Exception", ""));
        }
        return shown.toString();
    }

    private static Set<String> publicConstants(Class<?> face) throws IllegalAccessException {
        Set<String> constants = new TreeSet<>();
        for (Field field : face.getDeclaredFields()) {
            if (Modifier.toString(field.getModifiers()).equals("public static final") && field.getType() == int.class) {
                constants.add(field.getName() + " " + field.getInt(null));
            }
        }
        return constants;
    }

    private static void behindTheFace(Class<?> type, Set<String> names) {
        boolean isFace = type == CursorBench.class;
        for (Method method : type.getDeclaredMethods()) {
            boolean isPrivate = Modifier.isPrivate(method.getModifiers());
            boolean isPublic = isFace && Modifier.isPublic(method.getModifiers());
            Check.due(method + " bears its name rightly", names.contains(method.getName()), isPublic);
            Check.due(method + " is hidden", isFace && !isPrivate && !isPublic, false);
        }
        for (Field field : type.getDeclaredFields()) {
            int modifiers = field.getModifiers();
            Check.due(field + " is final if it is static",
                    Modifier.isStatic(modifiers) && !Modifier.isFinal(modifiers), false);
            Check.due(field + " is hidden", isFace && !Modifier.isPrivate(modifiers)
                    && Arrays.stream(CONSTANTS).noneMatch(one -> one.startsWith(field.getName() + " ")), false);
        }
    }
}
