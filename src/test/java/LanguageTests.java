import java.io.IOException;
import java.lang.reflect.Executable;
import java.lang.reflect.Field;
import java.lang.reflect.Method;
import java.lang.reflect.Modifier;
import java.nio.file.Files;
import java.nio.file.Path;
import java.util.ArrayList;
import java.util.List;
import java.util.Set;
import java.util.TreeSet;
import java.util.regex.Matcher;
import java.util.regex.Pattern;

/**
 * What can be told of LANGUAGE.md from the source and the compiled class. It is stricter than the rules where the
 * program needs less than they allow: no try, no text but those of exceptions, no lists. The rule's number stands
 * first in each line.
 */
public final class LanguageTests {
    private static final Checks checks = new Checks("LanguageTests");
    private static final Path SOURCE = Path.of("src/main/java/TreeDiffer.java");
    private static final int LONGEST_METHOD = 60;
    private static final Set<String> IMPORTS =
            Set.of("import java.util.Arrays;", "import java.util.NoSuchElementException;");
    private static final Set<String> LIBRARY = Set.of("System.arraycopy", "Arrays.fill", "Math.min", "Math.max");
    private static final Set<Class<?>> VALUES =
            Set.of(boolean.class, char.class, int.class, long.class, double.class, void.class);
    private static final String[] BANNED = {
        "->", "::", "try", "catch", "finally", "synchronized", "assert", "instanceof", "package", "equals", "hashCode",
        "toString", "native", "transient", "volatile", "Thread", "Random", "var", "yield", "StringBuilder", "List",
        "static {", "@",
    };

    public static void main(String[] args) throws IOException {
        String source = Files.readString(SOURCE);
        String code = source.replaceAll("(?s)/\\*.*?\\*/", "").replaceAll("//[^\n]*", "");
        String bare = code.replaceAll("\"[^\"\n]*\"", "\"\"");
        checkWords(bare);
        checkExceptions(code);
        checkMethodLengths(source);
        List<Class<?>> classes = new ArrayList<>();
        addWithInside(classes, TreeDiffer.class);
        checks.due("11 at most twelve classes", true, () -> classes.size() <= 12);
        for (Class<?> each : classes) {
            checkFields(each);
            checkMethods(each);
        }
        checks.close();
    }

    // ---- the source

    private static void checkWords(String code) {
        for (String banned : BANNED) {
            String pattern = banned.matches("[A-Za-z]+") ? "\\b" + banned + "\\b" : Pattern.quote(banned);
            checks.due("4, 6, 10 no '" + banned + "'", false, () -> Pattern.compile(pattern).matcher(code).find());
        }
        for (String line : code.split("\n")) {
            if (line.startsWith("import")) {
                checks.due("4 " + line, true, () -> IMPORTS.contains(line));
            }
        }
        Matcher calls = Pattern.compile("\\b(System|Arrays|Math|Integer|Long|String|Character)\\.\\w+").matcher(code);
        while (calls.find()) {
            String call = calls.group();
            checks.due("4 " + call, true, () -> LIBRARY.contains(call));
        }
        checks.due("5 no static state", false,
                () -> Pattern.compile("static (?!final )[^(;{]*[;=]").matcher(code).find());
    }

    private static void checkExceptions(String code) {
        Matcher thrown = Pattern.compile("\\bthrow\\b[^;]*;").matcher(code);
        Pattern due = Pattern.compile("throw new (IllegalState|IllegalArgument|IndexOutOfBounds|UnsupportedOperation"
                + "|NoSuchElement)Exception\\(\"[^\"]*\"\\);");
        while (thrown.find()) {
            String statement = thrown.group();
            checks.due("6 " + statement, true, () -> due.matcher(statement).matches());
        }
    }

    /** A method ends at the first closing brace that stands as deep as its head. */
    private static void checkMethodLengths(String source) {
        String[] lines = source.split("\n");
        for (int head = 0; head < lines.length; head++) {
            String line = lines[head];
            if (line.matches(" {4,8}\\w[^;=]*\\(.*") && !line.contains(" class ")) {
                String end = line.replaceAll("\\S.*", "") + "}";
                int last = head;
                while (last < lines.length - 1 && !lines[last].equals(end)) {
                    last++;
                }
                int length = last - head + 1;
                checks.due("11 lines of " + line.trim(), true, () -> length <= LONGEST_METHOD);
            }
        }
    }

    // ---- the compiled class

    private static void addWithInside(List<Class<?>> classes, Class<?> added) {
        classes.add(added);
        for (Class<?> inside : added.getDeclaredClasses()) {
            addWithInside(classes, inside);
        }
    }

    private static void checkFields(Class<?> each) {
        int kept = 0;
        for (Field field : each.getDeclaredFields()) {
            boolean isStatic = Modifier.isStatic(field.getModifiers());
            kept += isStatic ? 0 : 1;
            checks.due("3 type of " + field, true, () -> isAllowed(field.getType()));
            if (isStatic) {
                checks.due("5 " + field, true,
                        () -> Modifier.isFinal(field.getModifiers()) && VALUES.contains(field.getType()));
            }
        }
        int fields = kept;
        checks.due("11 fields of " + each, true, () -> fields <= 20);
    }

    private static void checkMethods(Class<?> each) {
        Set<String> open = new TreeSet<>();
        for (Method method : TreeDiffer.class.getDeclaredMethods()) {
            if (Modifier.isPublic(method.getModifiers())) {
                open.add(method.getName());
            }
        }
        for (Method method : each.getDeclaredMethods()) {
            checkTypes(method);
            checks.due("3 answer of " + method, true, () -> isAllowed(method.getReturnType()));
            boolean isOpen = each == TreeDiffer.class && Modifier.isPublic(method.getModifiers());
            checks.due("1 name of " + method, isOpen, () -> open.contains(method.getName()));
        }
        for (Executable constructor : each.getDeclaredConstructors()) {
            checkTypes(constructor);
        }
    }

    private static void checkTypes(Executable called) {
        checks.due("11 parameters of " + called, true, () -> called.getParameterCount() <= 7);
        for (Class<?> type : called.getParameterTypes()) {
            checks.due("3 parameter of " + called, true, () -> isAllowed(type));
        }
    }

    /** Numbers, own classes, arrays of one dimension of both, and of two dimensions of numbers. */
    private static boolean isAllowed(Class<?> type) {
        if (type.isArray()) {
            Class<?> element = type.getComponentType();
            return isOne(element) || element.isArray() && VALUES.contains(element.getComponentType());
        }
        return isOne(type);
    }

    private static boolean isOne(Class<?> type) {
        return VALUES.contains(type) || type.getNestHost() == TreeDiffer.class;
    }
}
