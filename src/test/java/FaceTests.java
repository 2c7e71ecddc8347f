import java.lang.reflect.Constructor;
import java.lang.reflect.Field;
import java.lang.reflect.Member;
import java.lang.reflect.Method;
import java.lang.reflect.Modifier;
import java.util.Arrays;
import java.util.Set;
import java.util.TreeSet;
import java.util.stream.Collectors;

/** The class has the document's face, and no other member that can be seen from outside. */
public final class FaceTests {
    private static final String BOUNDS = " throws IndexOutOfBoundsException";
    private static final String STATE = " throws IllegalStateException";
    private static final String ELEMENT = " throws NoSuchElementException";
    private static final String BOUNDS_ELEMENT = BOUNDS + ", NoSuchElementException";

    private static final String[] FACE = {
        "int type(char)" + STATE,
        "int read(int)" + BOUNDS + ", IllegalArgumentException",
        "int errorPosition()" + ELEMENT,
        "int writeTree(int)" + BOUNDS,
        "int writeScript()" + STATE,
        "char charAt(int)" + BOUNDS,
        "int addNode(int, int, int, char)" + BOUNDS + ", IllegalArgumentException, IllegalStateException",
        "int removeNode(int, int)" + BOUNDS + ", UnsupportedOperationException",
        "int setLabel(int, int, char)" + BOUNDS + ", IllegalArgumentException",
        "int setKey(int, int, int)" + BOUNDS
                + ", IllegalArgumentException, UnsupportedOperationException, IllegalStateException",
        "int setValue(int, int, int)" + BOUNDS + ", IllegalArgumentException",
        "int copyTree(int, int)" + BOUNDS,
        "int size(int)" + BOUNDS,
        "char label(int, int)" + BOUNDS,
        "int key(int, int)" + BOUNDS,
        "int value(int, int)" + BOUNDS,
        "int children(int, int)" + BOUNDS,
        "int parent(int, int)" + BOUNDS_ELEMENT,
        "int subtreeSize(int, int)" + BOUNDS,
        "int subtreeHash(int, int)" + BOUNDS,
        "boolean areEqual(int, int, int, int)" + BOUNDS,
        "int twin(int, int, int)" + BOUNDS_ELEMENT,
        "int shapeTwin(int, int, int)" + BOUNDS_ELEMENT,
        "int distance(int, int)" + BOUNDS,
        "int distanceByMatchings(int, int)" + BOUNDS + ", UnsupportedOperationException",
        "double similarity(int, int)" + BOUNDS,
        "int diff(int, int)" + BOUNDS,
        "int operations()" + STATE,
        "char opKind(int)" + STATE + ", IndexOutOfBoundsException",
        "int opNode(int)" + STATE + ", IndexOutOfBoundsException",
        "int opTarget(int)" + STATE + ", IndexOutOfBoundsException, NoSuchElementException",
        "int partner(int)" + STATE + ", IndexOutOfBoundsException, NoSuchElementException",
        "int moves()" + STATE,
        "int scriptCost()" + STATE,
        "boolean givesTarget()" + STATE,
        "int patch(int)" + BOUNDS + ", IllegalStateException, UnsupportedOperationException",
        "int conflictOperation()" + ELEMENT,
        "char conflictReason()" + ELEMENT,
        "boolean isConsistent()",
    };

    public static void main(String[] args) {
        Checks checks = new Checks("FaceTests");
        Class<TreeDiffer> face = TreeDiffer.class;
        checks.due("modifiers", "public final", () -> Modifier.toString(face.getModifiers()));
        checks.due("above it", Object.class, face::getSuperclass);
        checks.due("interfaces", 0, () -> face.getInterfaces().length);
        checkMethods(checks, face);
        checkConstructors(checks, face);
        checkFields(checks, face);
        for (Class<?> inside : face.getDeclaredClasses()) {
            checks.due(inside + " is hidden and static", true, () -> isHiddenAndStatic(inside));
        }
        checks.close();
    }

    private static void checkMethods(Checks checks, Class<?> face) {
        Set<String> found = new TreeSet<>();
        Set<String> names = new TreeSet<>();
        for (Method method : face.getDeclaredMethods()) {
            if (Modifier.isPublic(method.getModifiers())) {
                found.add(signatureOf(method));
                names.add(method.getName());
            }
        }
        for (String due : FACE) {
            checks.due(due, true, () -> found.remove(due));
        }
        checks.due("other public methods", "[]", found::toString);
        for (Method method : face.getDeclaredMethods()) {
            if (!Modifier.isPublic(method.getModifiers())) {
                checks.due(method + " is private", true, () -> isPrivate(method));
                checks.due(method + " has a name of its own", false, () -> names.contains(method.getName()));
            }
        }
    }

    private static void checkConstructors(Checks checks, Class<?> face) {
        Constructor<?>[] constructors = face.getDeclaredConstructors();
        checks.due("constructors", 1, () -> constructors.length);
        checks.due("the constructor", "public TreeDiffer()", () -> constructors[0].toGenericString());
    }

    /** Beside constants, nothing may be kept for all objects. */
    private static void checkFields(Checks checks, Class<?> face) {
        for (Field field : face.getDeclaredFields()) {
            checks.due(field + " is private", true, () -> isPrivate(field));
            if (Modifier.isStatic(field.getModifiers())) {
                checks.due(field + " is a constant", true, () -> Modifier.isFinal(field.getModifiers()));
            }
        }
    }

    private static boolean isPrivate(Member member) {
        return Modifier.isPrivate(member.getModifiers());
    }

    private static boolean isHiddenAndStatic(Class<?> inside) {
        int modifiers = inside.getModifiers();
        return Modifier.isStatic(modifiers) && !Modifier.isPublic(modifiers) && !Modifier.isProtected(modifiers);
    }

    private static String signatureOf(Method method) {
        String signature = method.getReturnType().getSimpleName() + " " + method.getName() + "("
                + simpleNames(method.getParameterTypes()) + ")";
        Class<?>[] thrown = method.getExceptionTypes();
        return thrown.length == 0 ? signature : signature + " throws " + simpleNames(thrown);
    }

    private static String simpleNames(Class<?>[] types) {
        return Arrays.stream(types).map(Class::getSimpleName).collect(Collectors.joining(", "));
    }
}
