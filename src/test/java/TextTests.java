import java.util.ArrayList;
import java.util.HashSet;
import java.util.List;
import java.util.Set;

/**
 * Every text of up to six of the characters that the grammar has, and every one behind some beginnings, against the
 * words of the document and nothing else: all texts of trees are built from the grammar, and a text is wrong at the
 * first character with which none of them begins, or at its length if it is only a beginning.
 */
public final class TextTests extends DifferCalls {
    private static final Checks checks = new Checks("TextTests");
    private static final String SIGNS = "a#1=0()";
    private static final int LONGEST = 6;
    /** Siblings have keys only in longer texts. */
    private static final String[] BEGINNINGS = {"a(a#1", "a(aa#1", "a(a#1a", "a(a#1("};
    private static final int LONGEST_BEHIND = 3;
    /** What a beginning still needs: a "(" a letter and a ")", a "#" or a "=" one character. */
    private static final int LONGEST_WHOLE = 13;
    private static final String[] VALUES = {"", "=0", "=1", "=00", "=01", "=10", "=11"};

    private static final Set<String> whole = new HashSet<>();
    private static final Set<String> beginnings = new HashSet<>();

    public static void main(String[] args) {
        for (int length = 1; length <= LONGEST_WHOLE; length++) {
            for (String text : nodes(length, "")) {
                whole.add(text);
                for (int end = 0; end <= length; end++) {
                    beginnings.add(text.substring(0, end));
                }
            }
        }
        readAllFrom("", LONGEST);
        for (String beginning : BEGINNINGS) {
            readAllFrom(beginning, LONGEST_BEHIND);
        }
        checks.close();
    }

    /** The texts of this length of nodes with this key. */
    private static List<String> nodes(int length, String key) {
        List<String> found = new ArrayList<>();
        for (String value : VALUES) {
            String head = "a" + key + value;
            int left = length - head.length();
            if (left == 0) {
                found.add(head);
            }
            for (String children : siblings(left - 2, 0)) {
                found.add(head + "(" + children + ")");
            }
        }
        return found;
    }

    /** The texts of this length of one or more siblings, where some of the keys 1 and 2 are taken. */
    private static List<String> siblings(int length, int taken) {
        List<String> found = new ArrayList<>();
        for (int part = 1; part <= length; part++) {
            addSiblings(found, nodes(part, ""), length - part, taken);
            for (int key = 1; key <= 2; key++) {
                if ((taken & key) == 0) {
                    addSiblings(found, nodes(part, "#" + key), length - part, taken | key);
                }
            }
        }
        return found;
    }

    private static void addSiblings(List<String> found, List<String> heads, int left, int taken) {
        List<String> tails = left == 0 ? List.of("") : heads.isEmpty() ? List.of() : siblings(left, taken);
        for (String head : heads) {
            for (String tail : tails) {
                found.add(head + tail);
            }
        }
    }

    private static void readAllFrom(String text, int left) {
        readOne(text);
        for (int sign = 0; sign < SIGNS.length() && left > 0; sign++) {
            readAllFrom(text + SIGNS.charAt(sign), left - 1);
        }
    }

    private static void readOne(String text) {
        TreeDiffer x = new TreeDiffer();
        type(x, text);
        if (whole.contains(text)) {
            String plain = text.replaceAll("=0?([01])", "=$1").replace("=0", "");
            checks.due("3 " + text, nodesOf(text), () -> x.read(0));
            checks.due("5 " + text, plain, () -> tree(x, 0));
        } else {
            checks.thrown("3 " + text, ARGUMENT, () -> x.read(0));
            checks.due("4 " + text, wrongAt(text), x::errorPosition);
        }
    }

    private static int nodesOf(String text) {
        return (int) text.chars().filter(sign -> sign == 'a').count();
    }

    private static int wrongAt(String text) {
        int right = 0;
        while (right < text.length() && beginnings.contains(text.substring(0, right + 1))) {
            right++;
        }
        return right;
    }
}
