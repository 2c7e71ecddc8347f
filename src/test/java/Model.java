import java.util.ArrayList;
import java.util.HashMap;
import java.util.HashSet;
import java.util.IdentityHashMap;
import java.util.List;
import java.util.Map;
import java.util.NoSuchElementException;
import java.util.Set;

/** A plain model of the document, with linked nodes and recursion, that says what each call is due to answer. */
final class Model {
    private static final int IMPOSSIBLE = 1_000_000;

    private static final class Node {
        char label;
        int key;
        int value;
        Node parent;
        final List<Node> kids = new ArrayList<>();

        Node(char label) {
            this.label = label;
        }

        void put(int position, Node kid) {
            kids.add(position, kid);
            kid.parent = this;
        }

        int size() {
            int total = 1;
            for (Node kid : kids) {
                total += kid.size();
            }
            return total;
        }

        Node copy(Map<Node, Node> copies) {
            Node copy = new Node(label);
            copy.key = key;
            copy.value = value;
            for (Node kid : kids) {
                copy.put(copy.kids.size(), kid.copy(copies));
            }
            copies.put(this, copy);
            return copy;
        }

        List<Node> preorder() {
            List<Node> all = new ArrayList<>();
            all.add(this);
            for (Node kid : kids) {
                all.addAll(kid.preorder());
            }
            return all;
        }

        boolean same(Node other, boolean shapeOnly) {
            boolean same = kids.size() == other.kids.size();
            same &= shapeOnly || label == other.label && key == other.key && value == other.value;
            for (int index = 0; same && index < kids.size(); index++) {
                same = kids.get(index).same(other.kids.get(index), shapeOnly);
            }
            return same;
        }

        int hash() {
            int hash = label;
            hash = hash * 31 + key;
            hash = hash * 31 + value;
            for (Node kid : kids) {
                hash = hash * 31 + kid.hash();
            }
            return hash * 31 + kids.size();
        }

        String text() {
            StringBuilder text = new StringBuilder().append(label);
            if (key != 0) {
                text.append('#').append(key);
            }
            if (value != 0) {
                text.append('=').append(value);
            }
            if (!kids.isEmpty()) {
                text.append('(');
                for (Node kid : kids) {
                    text.append(kid.text());
                }
                text.append(')');
            }
            return text.toString();
        }

        boolean hasKid(int wanted, Node excepted) {
            for (Node kid : kids) {
                if (wanted != 0 && kid != excepted && kid.key == wanted) {
                    return true;
                }
            }
            return false;
        }
    }

    /** A matching that is being chosen: some pairs and some nodes without a pair are fixed. */
    private static final class Matching {
        final Node first;
        final Node second;
        final int least;
        final Map<Node, Node> pairs = new IdentityHashMap<>();
        final Map<Node, Node> back = new IdentityHashMap<>();
        final Set<Node> singles = new HashSet<>();
        /** For a node of the first tree, what was decided about its children, in order. */
        final Map<Node, List<Node[]>> decisions = new IdentityHashMap<>();
        private Map<Node, Map<Node, Integer>> known;

        Matching(Node first, Node second) {
            this.first = first;
            this.second = second;
            least = leastThatAgrees();
        }

        /** The least cost of a matching that agrees with all that is fixed. */
        int leastThatAgrees() {
            known = new IdentityHashMap<>();
            return cost(first, second);
        }

        private int cost(Node a, Node b) {
            Map<Node, Integer> row = known.computeIfAbsent(a, node -> new IdentityHashMap<>());
            Integer before = row.get(b);
            if (before != null) {
                return before;
            }
            int cost = (a.label != b.label ? 3 : 0) + (a.value != b.value ? 1 : 0) + costOfKids(a.kids, b.kids);
            row.put(b, cost);
            return cost;
        }

        private int costOfKids(List<Node> a, List<Node> b) {
            int[][] upTo = new int[a.size() + 1][b.size() + 1];
            for (int i = 0; i <= a.size(); i++) {
                for (int j = 0; j <= b.size(); j++) {
                    int best = i + j == 0 ? 0 : IMPOSSIBLE;
                    if (i > 0 && !pairs.containsKey(a.get(i - 1))) {
                        best = Math.min(best, upTo[i - 1][j] + 2 * a.get(i - 1).size());
                    }
                    if (j > 0 && !back.containsKey(b.get(j - 1))) {
                        best = Math.min(best, upTo[i][j - 1] + 2 * b.get(j - 1).size());
                    }
                    if (i > 0 && j > 0 && mayBePair(a.get(i - 1), b.get(j - 1))) {
                        best = Math.min(best, upTo[i - 1][j - 1] + cost(a.get(i - 1), b.get(j - 1)));
                    }
                    upTo[i][j] = best;
                }
            }
            return upTo[a.size()][b.size()];
        }

        private boolean mayBePair(Node a, Node b) {
            if (a.key != b.key || singles.contains(a) || singles.contains(b)) {
                return false;
            }
            Node partner = pairs.get(a);
            return partner == null ? !back.containsKey(b) : partner == b;
        }

        void chooseCanonical() {
            pairs.put(first, second);
            back.put(second, first);
            choose(first, second);
        }

        private void choose(Node a, Node b) {
            List<Node[]> order = new ArrayList<>();
            decisions.put(a, order);
            int i = 0;
            int j = 0;
            while (i < a.kids.size() && j < b.kids.size()) {
                Node one = a.kids.get(i);
                Node two = b.kids.get(j);
                if (one.key == two.key && fixPair(one, two)) {
                    order.add(new Node[] {one, two});
                    i++;
                    j++;
                } else if (fixSingle(one)) {
                    order.add(new Node[] {one, null});
                    i++;
                } else {
                    singles.add(two);
                    order.add(new Node[] {null, two});
                    j++;
                }
            }
            for (; i < a.kids.size(); i++) {
                singles.add(a.kids.get(i));
                order.add(new Node[] {a.kids.get(i), null});
            }
            for (; j < b.kids.size(); j++) {
                singles.add(b.kids.get(j));
                order.add(new Node[] {null, b.kids.get(j)});
            }
            for (Node[] decision : order) {
                if (decision[0] != null && decision[1] != null) {
                    choose(decision[0], decision[1]);
                }
            }
        }

        private boolean fixPair(Node one, Node two) {
            pairs.put(one, two);
            back.put(two, one);
            if (leastThatAgrees() == least) {
                return true;
            }
            pairs.remove(one);
            back.remove(two);
            return false;
        }

        private boolean fixSingle(Node one) {
            singles.add(one);
            // A node that is fixed as single can only be left out, and that must not cost more.
            if (leastThatAgrees() == least) {
                return true;
            }
            singles.remove(one);
            return false;
        }
    }

    private static final class Operation {
        char kind;
        Node old;
        Node target;

        Operation(char kind, Node old, Node target) {
            this.kind = kind;
            this.old = old;
            this.target = target;
        }
    }

    private final Node[] trees = {new Node('a'), new Node('a'), new Node('a')};
    private final StringBuilder buffer = new StringBuilder();
    private String line = "";
    private int wrongAt = -1;
    private Node oldTree;
    private Node newTree;
    private Matching matching;
    private List<Operation> script;
    private int conflict = -1;
    private char reason;

    // ---- texts

    int type(char character) {
        if (buffer.length() == 80) {
            throw new IllegalStateException();
        }
        buffer.append(character);
        return buffer.length();
    }

    int read(int tree) {
        tree(tree);
        String text = buffer.toString();
        buffer.setLength(0);
        int position = new ModelText(text).wrongAt();
        if (position >= 0) {
            wrongAt = position;
            throw new IllegalArgumentException();
        }
        trees[tree] = build(text, new int[] {0}, null);
        return size(tree);
    }

    /** Builds the tree of a text that is right. */
    private static Node build(String text, int[] at, Node parent) {
        Node node = new Node(text.charAt(at[0]++));
        node.parent = parent;
        if (is(text, at, '#')) {
            node.key = text.charAt(at[0]++) - '0';
        }
        if (is(text, at, '=')) {
            int end = at[0];
            while (end < text.length() && Character.isDigit(text.charAt(end))) {
                end++;
            }
            node.value = Integer.parseInt(text.substring(at[0], end));
            at[0] = end;
        }
        if (is(text, at, '(')) {
            while (!is(text, at, ')')) {
                node.kids.add(build(text, at, node));
            }
        }
        return node;
    }

    private static boolean is(String text, int[] at, char wanted) {
        boolean found = at[0] < text.length() && text.charAt(at[0]) == wanted;
        at[0] += found ? 1 : 0;
        return found;
    }

    int errorPosition() {
        if (wrongAt < 0) {
            throw new NoSuchElementException();
        }
        return wrongAt;
    }

    int writeTree(int tree) {
        line = tree(tree).text();
        return line.length();
    }

    int writeScript() {
        needScript();
        StringBuilder text = new StringBuilder();
        for (int operation = 0; operation < script.size(); operation++) {
            text.append(opKind(operation)).append(opNode(operation));
        }
        line = text.toString();
        return line.length();
    }

    char charAt(int index) {
        if (index < 0 || index >= line.length()) {
            throw new IndexOutOfBoundsException();
        }
        return line.charAt(index);
    }

    // ---- trees

    private Node tree(int tree) {
        if (tree < 0 || tree > 2) {
            throw new IndexOutOfBoundsException();
        }
        return trees[tree];
    }

    private Node node(int tree, int node) {
        List<Node> all = tree(tree).preorder();
        if (node < 0 || node >= all.size()) {
            throw new IndexOutOfBoundsException();
        }
        return all.get(node);
    }

    private static int number(Node root, Node node) {
        List<Node> all = root.preorder();
        for (int number = 0; number < all.size(); number++) {
            if (all.get(number) == node) {
                return number;
            }
        }
        throw new AssertionError();
    }

    private static void needLabel(char label) {
        if (label < 'a' || label > 'z') {
            throw new IllegalArgumentException();
        }
    }

    int addNode(int tree, int parent, int position, char label) {
        Node above = node(tree, parent);
        if (position < 0 || position > above.kids.size()) {
            throw new IndexOutOfBoundsException();
        }
        needLabel(label);
        if (size(tree) == 20) {
            throw new IllegalStateException();
        }
        Node added = new Node(label);
        above.put(position, added);
        return number(trees[tree], added);
    }

    int removeNode(int tree, int node) {
        Node removed = node(tree, node);
        if (node == 0) {
            throw new UnsupportedOperationException();
        }
        removed.parent.kids.remove(removed);
        return size(tree);
    }

    int setLabel(int tree, int node, char label) {
        Node changed = node(tree, node);
        needLabel(label);
        changed.label = label;
        int found = 0;
        for (Node each : trees[tree].preorder()) {
            found += each.label == label ? 1 : 0;
        }
        return found;
    }

    int setKey(int tree, int node, int key) {
        Node changed = node(tree, node);
        if (key < 0 || key > 9) {
            throw new IllegalArgumentException();
        }
        if (node == 0) {
            throw new UnsupportedOperationException();
        }
        if (changed.parent.hasKid(key, changed)) {
            throw new IllegalStateException();
        }
        int previous = changed.key;
        changed.key = key;
        return previous;
    }

    int setValue(int tree, int node, int value) {
        Node changed = node(tree, node);
        if (value < 0 || value > 99) {
            throw new IllegalArgumentException();
        }
        int previous = changed.value;
        changed.value = value;
        return previous;
    }

    int copyTree(int from, int to) {
        tree(to);
        trees[to] = tree(from).copy(new HashMap<>());
        return size(to);
    }

    int size(int tree) {
        return tree(tree).size();
    }

    char label(int tree, int node) {
        return node(tree, node).label;
    }

    int key(int tree, int node) {
        return node(tree, node).key;
    }

    int value(int tree, int node) {
        return node(tree, node).value;
    }

    int children(int tree, int node) {
        return node(tree, node).kids.size();
    }

    int parent(int tree, int node) {
        Node below = node(tree, node);
        if (node == 0) {
            throw new NoSuchElementException();
        }
        return number(trees[tree], below.parent);
    }

    int subtreeSize(int tree, int node) {
        return node(tree, node).size();
    }

    int subtreeHash(int tree, int node) {
        return node(tree, node).hash();
    }

    boolean areEqual(int tree, int node, int other, int otherNode) {
        Node one = node(tree, node);
        return one.same(node(other, otherNode), false);
    }

    int twin(int tree, int node, int other) {
        return firstSame(tree, node, other, false);
    }

    int shapeTwin(int tree, int node, int other) {
        return firstSame(tree, node, other, true);
    }

    private int firstSame(int tree, int node, int other, boolean shapeOnly) {
        Node wanted = node(tree, node);
        List<Node> all = tree(other).preorder();
        for (int number = 0; number < all.size(); number++) {
            if (wanted.same(all.get(number), shapeOnly)) {
                return number;
            }
        }
        throw new NoSuchElementException();
    }

    // ---- distances and scripts

    int distance(int first, int second) {
        return new Matching(tree(first), tree(second)).least;
    }

    int distanceByMatchings(int first, int second) {
        int distance = distance(first, second);
        if (size(first) > 7 || size(second) > 7) {
            throw new UnsupportedOperationException();
        }
        return distance;
    }

    double similarity(int first, int second) {
        int distance = distance(first, second);
        return 1 - (double) distance / (double) (2 * (size(first) + size(second)));
    }

    int diff(int first, int second) {
        Node one = tree(first);
        Node two = tree(second);
        oldTree = one.copy(new HashMap<>());
        newTree = two.copy(new HashMap<>());
        matching = new Matching(oldTree, newTree);
        matching.chooseCanonical();
        script = new ArrayList<>();
        describe(oldTree, newTree);
        recognizeMoves();
        return script.size();
    }

    private void describe(Node a, Node b) {
        if (a.label != b.label) {
            script.add(new Operation('l', a, b));
        }
        if (a.value != b.value) {
            script.add(new Operation('v', a, b));
        }
        for (Node[] decision : matching.decisions.get(a)) {
            if (decision[1] == null) {
                script.add(new Operation('d', decision[0], null));
            } else if (decision[0] == null) {
                script.add(new Operation('i', null, decision[1]));
            } else {
                describe(decision[0], decision[1]);
            }
        }
    }

    private void recognizeMoves() {
        for (Operation deletion : new ArrayList<>(script)) {
            for (Operation insertion : script) {
                if (deletion.kind == 'd' && insertion.kind == 'i' && deletion.old.same(insertion.target, false)) {
                    insertion.kind = 'm';
                    insertion.old = deletion.old;
                    script.remove(deletion);
                    break;
                }
            }
        }
    }

    private void needScript() {
        if (script == null) {
            throw new IllegalStateException();
        }
    }

    private Operation operation(int operation) {
        needScript();
        if (operation < 0 || operation >= script.size()) {
            throw new IndexOutOfBoundsException();
        }
        return script.get(operation);
    }

    int operations() {
        needScript();
        return script.size();
    }

    char opKind(int operation) {
        return operation(operation).kind;
    }

    int opNode(int operation) {
        Operation found = operation(operation);
        return found.kind == 'i' ? number(newTree, found.target) : number(oldTree, found.old);
    }

    int opTarget(int operation) {
        Operation found = operation(operation);
        if (found.kind == 'd') {
            throw new NoSuchElementException();
        }
        return number(newTree, found.target);
    }

    int partner(int node) {
        needScript();
        List<Node> all = oldTree.preorder();
        if (node < 0 || node >= all.size()) {
            throw new IndexOutOfBoundsException();
        }
        Node partner = matching.pairs.get(all.get(node));
        if (partner == null) {
            throw new NoSuchElementException();
        }
        return number(newTree, partner);
    }

    int moves() {
        needScript();
        int found = 0;
        for (Operation operation : script) {
            found += operation.kind == 'm' ? 1 : 0;
        }
        return found;
    }

    int scriptCost() {
        needScript();
        int cost = 0;
        for (Operation operation : script) {
            switch (operation.kind) {
                case 'l' -> cost += 3;
                case 'v', 'm' -> cost += 1;
                case 'd' -> cost += 2 * operation.old.size();
                default -> cost += 2 * operation.target.size();
            }
        }
        return cost;
    }

    boolean givesTarget() {
        needScript();
        Node work = oldTree.copy(new HashMap<>());
        return new Patch(work).apply() && work.same(newTree, false);
    }

    // ---- patches

    int patch(int tree) {
        tree(tree);
        needScript();
        Node work = trees[tree].copy(new HashMap<>());
        Patch patch = new Patch(work);
        if (!patch.apply()) {
            conflict = patch.at;
            reason = patch.why;
            throw new UnsupportedOperationException();
        }
        trees[tree] = work;
        return work.size();
    }

    /** Applies the script to a tree that is changed in place. */
    private final class Patch {
        final Node work;
        final Map<Node, Node> images;
        final Map<Node, Node> putIn = new IdentityHashMap<>();
        int at;
        char why;

        Patch(Node work) {
            this.work = work;
            Matching toWork = new Matching(oldTree, work);
            toWork.chooseCanonical();
            images = toWork.pairs;
        }

        boolean apply() {
            for (int pass = 1; pass <= 3; pass++) {
                for (at = 0; at < script.size(); at++) {
                    why = tryOne(pass, script.get(at));
                    if (why != 0) {
                        return false;
                    }
                }
            }
            return true;
        }

        private char tryOne(int pass, Operation operation) {
            char kind = operation.kind;
            if (pass == 1 && (kind == 'd' || kind == 'm')) {
                return takeOut(operation, images.get(operation.old));
            }
            if (pass == 2 && (kind == 'l' || kind == 'v')) {
                return change(operation, images.get(operation.old));
            }
            if (pass == 3 && (kind == 'i' || kind == 'm')) {
                return put(operation, images.get(matching.back.get(operation.target.parent)));
            }
            return 0;
        }

        private char takeOut(Operation operation, Node image) {
            if (image == null) {
                return operation.kind == 'm' ? 'g' : 0;
            }
            if (operation.kind == 'd' && !image.same(operation.old, false)) {
                return 'c';
            }
            image.parent.kids.remove(image);
            return 0;
        }

        private char change(Operation operation, Node image) {
            if (image == null) {
                return 'g';
            }
            Node before = operation.old;
            Node after = operation.target;
            if (operation.kind == 'l') {
                if (image.label != before.label && image.label != after.label) {
                    return 'c';
                }
                image.label = after.label;
            } else {
                if (image.value != before.value && image.value != after.value) {
                    return 'c';
                }
                image.value = after.value;
            }
            return 0;
        }

        private char put(Operation operation, Node parent) {
            if (parent == null) {
                return 'g';
            }
            Node target = operation.target;
            Node subtree = operation.kind == 'm' ? images.get(operation.old) : target.copy(new HashMap<>());
            if (parent.hasKid(target.key, null)) {
                return 'k';
            }
            if (work.size() + subtree.size() > 20) {
                return 'f';
            }
            List<Node> siblings = target.parent.kids;
            int position = 0;
            for (int index = siblings.indexOf(target) - 1; index >= 0 && position == 0; index--) {
                Node sibling = siblings.get(index);
                Node partner = matching.back.get(sibling);
                Node counterpart = partner != null ? images.get(partner) : putIn.get(sibling);
                position = parent.kids.indexOf(counterpart) + 1;
            }
            parent.put(position, subtree);
            putIn.put(target, subtree);
            return 0;
        }
    }

    int conflictOperation() {
        if (conflict < 0) {
            throw new NoSuchElementException();
        }
        return conflict;
    }

    char conflictReason() {
        if (conflict < 0) {
            throw new NoSuchElementException();
        }
        return reason;
    }

    boolean isConsistent() {
        return true;
    }
}
