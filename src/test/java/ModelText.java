import java.util.ArrayDeque;
import java.util.Deque;
import java.util.HashSet;
import java.util.Set;

/** Goes through a text character by character, with the state that the ones before have led to. */
final class ModelText {
    private enum State { BEFORE_NODE, LETTER, HASH, KEY, EQUALS, DIGIT, DIGITS, CLOSED }

    private final String text;
    private State state = State.BEFORE_NODE;
    private int nodes;
    /** The keys that are taken among the children of each open node, the innermost one first. */
    private final Deque<Set<Character>> open = new ArrayDeque<>();

    ModelText(String text) {
        this.text = text;
    }

    /** The position at which the text is wrong, or -1. */
    int wrongAt() {
        for (int position = 0; position < text.length(); position++) {
            if (!accepts(text.charAt(position))) {
                return position;
            }
        }
        boolean whole = open.isEmpty() && Set.of(State.LETTER, State.KEY, State.DIGIT, State.DIGITS, State.CLOSED)
                .contains(state);
        return whole ? -1 : text.length();
    }

    private boolean accepts(char c) {
        boolean digit = c >= '0' && c <= '9';
        switch (state) {
            case BEFORE_NODE:
                return acceptsLetter(c);
            case HASH:
                state = State.KEY;
                return digit && c != '0' && open.peek().add(c);
            case EQUALS:
                state = State.DIGIT;
                return digit;
            case LETTER:
                if (c == '#') {
                    state = State.HASH;
                    return !open.isEmpty();
                }
                return acceptsValue(c) || acceptsChildren(c) || acceptsNext(c);
            case KEY:
                return acceptsValue(c) || acceptsChildren(c) || acceptsNext(c);
            case DIGIT:
                if (digit) {
                    state = State.DIGITS;
                    return true;
                }
                return acceptsChildren(c) || acceptsNext(c);
            case DIGITS:
                return acceptsChildren(c) || acceptsNext(c);
            default:
                return acceptsNext(c);
        }
    }

    private boolean acceptsLetter(char c) {
        state = State.LETTER;
        nodes++;
        return c >= 'a' && c <= 'z' && nodes <= 20;
    }

    private boolean acceptsValue(char c) {
        if (c == '=') {
            state = State.EQUALS;
        }
        return c == '=';
    }

    private boolean acceptsChildren(char c) {
        if (c == '(') {
            open.push(new HashSet<>());
            state = State.BEFORE_NODE;
        }
        return c == '(';
    }

    private boolean acceptsNext(char c) {
        if (open.isEmpty()) {
            return false;
        }
        if (c == ')') {
            open.pop();
            state = State.CLOSED;
            return true;
        }
        return acceptsLetter(c);
    }
}
