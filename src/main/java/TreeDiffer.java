import java.util.Arrays;
import java.util.NoSuchElementException;

/** A differ of ordered labelled trees: distances, scripts with moves, and patches. */
public final class TreeDiffer {
    private static final int TREES = 3;
    private static final int MAX_NODES = 20;
    private static final int MAX_TRIED = 7;
    private static final int MAX_KEY = 9;
    private static final int MAX_VALUE = 99;
    private static final int BUFFER_LENGTH = 80;
    /** A tree of 20 nodes takes at most 156 characters, a script of 40 operations 120. */
    private static final int LINE_LENGTH = 160;
    /** A pair has at most two operations and any other node at most one: as many as both trees have nodes. */
    private static final int MAX_OPERATIONS = 40;

    private static final int LABEL_COST = 3;
    private static final int VALUE_COST = 1;
    private static final int MOVE_COST = 1;
    private static final int NODE_COST = 2;

    private static final int NONE = -1;

    private static final char CHANGE_LABEL = 'l';
    private static final char CHANGE_VALUE = 'v';
    private static final char DELETE = 'd';
    private static final char INSERT = 'i';
    private static final char MOVE = 'm';
    /** A deletion that has become part of a move, until it is removed from the script. */
    private static final char DROPPED = ' ';

    private static final char CHANGED = 'c';
    private static final char GONE = 'g';
    private static final char KEY_TAKEN = 'k';
    private static final char FULL = 'f';
    private static final char FITS = ' ';

    private final Tree[] trees = new Tree[TREES];
    private final TextBuffer buffer = new TextBuffer();
    private final Line line = new Line();
    private final Matcher matcher = new Matcher();
    private final Trial trial = new Trial();
    private final Script script = new Script();
    private final Patcher patcher = new Patcher();
    private int wrongAt = NONE;
    private int conflictAt = NONE;
    private char reason = FITS;

    public TreeDiffer() {
        for (int tree = 0; tree < TREES; tree++) {
            trees[tree] = new Tree();
        }
    }

    // ---- texts

    public int type(char character) throws IllegalStateException {
        if (!buffer.append(character)) {
            throw new IllegalStateException("the buffer is full");
        }
        return buffer.length;
    }

    public int read(int tree) throws IndexOutOfBoundsException, IllegalArgumentException {
        Tree target = treeAt(tree);
        boolean right = buffer.parse();
        buffer.length = 0;
        if (!right) {
            wrongAt = buffer.position;
            throw new IllegalArgumentException("the text is wrong");
        }
        target.copyFrom(buffer.draft);
        return target.count;
    }

    public int errorPosition() throws NoSuchElementException {
        if (wrongAt == NONE) {
            throw new NoSuchElementException("there was no wrong text");
        }
        return wrongAt;
    }

    public int writeTree(int tree) throws IndexOutOfBoundsException {
        Tree source = treeAt(tree);
        line.length = 0;
        line.appendTree(source);
        return line.length;
    }

    public int writeScript() throws IllegalStateException {
        needScript();
        line.length = 0;
        for (int operation = 0; operation < script.count; operation++) {
            line.append(script.kinds[operation]);
            line.appendNumber(script.shownNode(operation));
        }
        return line.length;
    }

    public char charAt(int index) throws IndexOutOfBoundsException {
        if (index < 0 || index >= line.length) {
            throw new IndexOutOfBoundsException("no such character");
        }
        return line.signs[index];
    }

    // ---- trees

    public int addNode(int tree, int parent, int position, char label)
            throws IndexOutOfBoundsException, IllegalArgumentException, IllegalStateException {
        Tree target = treeWith(tree, parent);
        if (position < 0 || position > target.countChildren(parent)) {
            throw new IndexOutOfBoundsException("no such position");
        }
        needLabel(label);
        int place = target.placeOf(parent, position);
        if (!target.openGap(place, 1)) {
            throw new IllegalStateException("the tree is full");
        }
        target.setNode(place, label, 0, 0, parent);
        return place;
    }

    public int removeNode(int tree, int node) throws IndexOutOfBoundsException, UnsupportedOperationException {
        Tree target = treeWith(tree, node);
        if (node == 0) {
            throw new UnsupportedOperationException("the root stays");
        }
        target.cutOut(node);
        return target.count;
    }

    public int setLabel(int tree, int node, char label) throws IndexOutOfBoundsException, IllegalArgumentException {
        Tree target = treeWith(tree, node);
        needLabel(label);
        target.labels[node] = label;
        return target.countLabel(label);
    }

    public int setKey(int tree, int node, int key)
            throws IndexOutOfBoundsException, IllegalArgumentException, UnsupportedOperationException,
                    IllegalStateException {
        Tree target = treeWith(tree, node);
        if (!isKey(key)) {
            throw new IllegalArgumentException("the key is out of range");
        }
        if (node == 0) {
            throw new UnsupportedOperationException("the root has no key");
        }
        if (target.hasKey(target.parents[node], key, node)) {
            throw new IllegalStateException("a sibling has this key");
        }
        int previous = target.keys[node];
        target.keys[node] = key;
        return previous;
    }

    public int setValue(int tree, int node, int value) throws IndexOutOfBoundsException, IllegalArgumentException {
        Tree target = treeWith(tree, node);
        if (!isValue(value)) {
            throw new IllegalArgumentException("the value is out of range");
        }
        int previous = target.values[node];
        target.values[node] = value;
        return previous;
    }

    public int copyTree(int from, int to) throws IndexOutOfBoundsException {
        Tree source = treeAt(from);
        Tree target = treeAt(to);
        target.copyFrom(source);
        return target.count;
    }

    public int size(int tree) throws IndexOutOfBoundsException {
        return treeAt(tree).count;
    }

    public char label(int tree, int node) throws IndexOutOfBoundsException {
        return treeWith(tree, node).labels[node];
    }

    public int key(int tree, int node) throws IndexOutOfBoundsException {
        return treeWith(tree, node).keys[node];
    }

    public int value(int tree, int node) throws IndexOutOfBoundsException {
        return treeWith(tree, node).values[node];
    }

    public int children(int tree, int node) throws IndexOutOfBoundsException {
        return treeWith(tree, node).countChildren(node);
    }

    public int parent(int tree, int node) throws IndexOutOfBoundsException, NoSuchElementException {
        Tree source = treeWith(tree, node);
        if (node == 0) {
            throw new NoSuchElementException("the root has no parent");
        }
        return source.parents[node];
    }

    public int subtreeSize(int tree, int node) throws IndexOutOfBoundsException {
        return treeWith(tree, node).widthOf(node);
    }

    public int subtreeHash(int tree, int node) throws IndexOutOfBoundsException {
        return treeWith(tree, node).hashOf(node);
    }

    public boolean areEqual(int tree, int node, int other, int otherNode) throws IndexOutOfBoundsException {
        Tree first = treeWith(tree, node);
        Tree second = treeWith(other, otherNode);
        return first.equalsAt(node, second, otherNode);
    }

    public int twin(int tree, int node, int other) throws IndexOutOfBoundsException, NoSuchElementException {
        Tree source = treeWith(tree, node);
        Tree searched = treeAt(other);
        for (int candidate = 0; candidate < searched.count; candidate++) {
            if (source.equalsAt(node, searched, candidate)) {
                return candidate;
            }
        }
        throw new NoSuchElementException("no equal subtree");
    }

    public int shapeTwin(int tree, int node, int other) throws IndexOutOfBoundsException, NoSuchElementException {
        Tree source = treeWith(tree, node);
        Tree searched = treeAt(other);
        for (int candidate = 0; candidate < searched.count; candidate++) {
            if (source.hasShapeAt(node, searched, candidate)) {
                return candidate;
            }
        }
        throw new NoSuchElementException("no subtree of this shape");
    }

    // ---- distances and scripts

    public int distance(int first, int second) throws IndexOutOfBoundsException {
        Tree one = treeAt(first);
        Tree two = treeAt(second);
        return matcher.leastCost(one, two);
    }

    public int distanceByMatchings(int first, int second)
            throws IndexOutOfBoundsException, UnsupportedOperationException {
        Tree one = treeAt(first);
        Tree two = treeAt(second);
        if (one.count > MAX_TRIED || two.count > MAX_TRIED) {
            throw new UnsupportedOperationException("too many matchings");
        }
        return trial.leastCost(one, two);
    }

    public double similarity(int first, int second) throws IndexOutOfBoundsException {
        Tree one = treeAt(first);
        Tree two = treeAt(second);
        double apart = (double) matcher.leastCost(one, two);
        double most = (double) (2 * (one.count + two.count));
        return most > 0.0 ? 1.0 - apart / most : 1.0;
    }

    public int diff(int first, int second) throws IndexOutOfBoundsException {
        Tree one = treeAt(first);
        Tree two = treeAt(second);
        script.compute(one, two, matcher);
        return script.count;
    }

    public int operations() throws IllegalStateException {
        needScript();
        return script.count;
    }

    public char opKind(int operation) throws IllegalStateException, IndexOutOfBoundsException {
        needOperation(operation);
        return script.kinds[operation];
    }

    public int opNode(int operation) throws IllegalStateException, IndexOutOfBoundsException {
        needOperation(operation);
        return script.shownNode(operation);
    }

    public int opTarget(int operation)
            throws IllegalStateException, IndexOutOfBoundsException, NoSuchElementException {
        needOperation(operation);
        if (script.kinds[operation] == DELETE) {
            throw new NoSuchElementException("a deletion has no target");
        }
        return script.targets[operation];
    }

    public int partner(int node) throws IllegalStateException, IndexOutOfBoundsException, NoSuchElementException {
        needScript();
        if (!script.oldTree.holds(node)) {
            throw new IndexOutOfBoundsException("no such node");
        }
        if (script.partners[node] == NONE) {
            throw new NoSuchElementException("the node belongs to no pair");
        }
        return script.partners[node];
    }

    public int moves() throws IllegalStateException {
        needScript();
        return script.countMoves();
    }

    public int scriptCost() throws IllegalStateException {
        needScript();
        return script.totalCost();
    }

    public boolean givesTarget() throws IllegalStateException {
        needScript();
        return patcher.apply(script, script.oldTree) && patcher.work.equalsAt(0, script.newTree, 0);
    }

    // ---- patches

    public int patch(int tree) throws IndexOutOfBoundsException, IllegalStateException, UnsupportedOperationException {
        Tree target = treeAt(tree);
        needScript();
        if (!patcher.apply(script, target)) {
            conflictAt = patcher.stoppedAt;
            reason = patcher.stopReason;
            throw new UnsupportedOperationException("there is a conflict");
        }
        target.copyFrom(patcher.work);
        return target.count;
    }

    public int conflictOperation() throws NoSuchElementException {
        if (conflictAt == NONE) {
            throw new NoSuchElementException("there was no conflict");
        }
        return conflictAt;
    }

    public char conflictReason() throws NoSuchElementException {
        if (conflictAt == NONE) {
            throw new NoSuchElementException("there was no conflict");
        }
        return reason;
    }

    public boolean isConsistent() {
        for (int tree = 0; tree < TREES; tree++) {
            if (!trees[tree].isSound()) {
                return false;
            }
        }
        return buffer.isSound() && line.isSound() && script.isSound();
    }

    // ---- what the calls need

    private Tree treeAt(int tree) {
        if (tree < 0 || tree >= TREES) {
            throw new IndexOutOfBoundsException("no such tree");
        }
        return trees[tree];
    }

    private Tree treeWith(int tree, int node) {
        Tree found = treeAt(tree);
        if (!found.holds(node)) {
            throw new IndexOutOfBoundsException("no such node");
        }
        return found;
    }

    private void needLabel(char label) {
        if (!isLabel(label)) {
            throw new IllegalArgumentException("no such label");
        }
    }

    private void needScript() {
        if (!script.made) {
            throw new IllegalStateException("there is no script");
        }
    }

    private void needOperation(int operation) {
        needScript();
        if (operation < 0 || operation >= script.count) {
            throw new IndexOutOfBoundsException("no such operation");
        }
    }

    private static boolean isLabel(int character) {
        return character >= 'a' && character <= 'z';
    }

    private static boolean isDigit(int character) {
        return character >= '0' && character <= '9';
    }

    private static boolean isKey(int key) {
        return key >= 0 && key <= MAX_KEY;
    }

    private static boolean isValue(int value) {
        return value >= 0 && value <= MAX_VALUE;
    }

    /** The entry of a row of nodes, or NONE where the row has no such entry. */
    private static int entry(int[] row, int index) {
        return index < 0 || index >= row.length ? NONE : row[index];
    }

    /** A tree whose nodes stand in preorder, so that a subtree is a run of nodes and a node's number is its index. */
    private static final class Tree {
        final char[] labels = new char[MAX_NODES];
        final int[] keys = new int[MAX_NODES];
        final int[] values = new int[MAX_NODES];
        /** The root's parent is NONE; every other parent has a lower number than its child. */
        final int[] parents = new int[MAX_NODES];
        /** Names that stay with the nodes while a patch changes their numbers; each patch gives its own. */
        final int[] marks = new int[MAX_NODES];
        private final int[] hashes = new int[MAX_NODES];
        int count;

        Tree() {
            labels[0] = 'a';
            parents[0] = NONE;
            count = 1;
        }

        boolean holds(int node) {
            return node >= 0 && node < count;
        }

        void copyFrom(Tree other) {
            System.arraycopy(other.labels, 0, labels, 0, MAX_NODES);
            System.arraycopy(other.keys, 0, keys, 0, MAX_NODES);
            System.arraycopy(other.values, 0, values, 0, MAX_NODES);
            System.arraycopy(other.parents, 0, parents, 0, MAX_NODES);
            count = other.count;
        }

        void setNode(int node, char label, int key, int value, int parent) {
            labels[node] = label;
            keys[node] = key;
            values[node] = value;
            parents[node] = parent;
            marks[node] = NONE;
        }

        /** The number of nodes of a subtree; the first node behind it has a parent before it. */
        int widthOf(int node) {
            int end = node + 1;
            while (end < count && parents[end] >= node) {
                end++;
            }
            return end - node;
        }

        /** The number behind the last node of a subtree. */
        int endOf(int node) {
            return node + widthOf(node);
        }

        int depthOf(int node) {
            int depth = 0;
            for (int above = node; above > 0 && depth < MAX_NODES; depth++) {
                above = parents[above];
            }
            return depth;
        }

        int countChildren(int node) {
            int found = 0;
            for (int child = node + 1; child < count; child++) {
                if (parents[child] == node) {
                    found++;
                }
            }
            return found;
        }

        int countLabel(char label) {
            int found = 0;
            for (int node = 0; node < count; node++) {
                if (labels[node] == label) {
                    found++;
                }
            }
            return found;
        }

        /** The number that a child at this position has, or would get behind the last one. */
        int placeOf(int parent, int position) {
            int before = 0;
            for (int child = parent + 1; child < count; child++) {
                if (parents[child] == parent) {
                    if (before == position) {
                        return child;
                    }
                    before++;
                }
            }
            return endOf(parent);
        }

        /** Whether a child other than the excepted one has this key, which is one. */
        boolean hasKey(int parent, int key, int excepted) {
            if (key == 0) {
                return false;
            }
            for (int child = parent + 1; child < count; child++) {
                if (child != excepted && parents[child] == parent && keys[child] == key) {
                    return true;
                }
            }
            return false;
        }

        /** Makes room for new nodes, or refuses when the tree would have too many; the caller fills them in. */
        boolean openGap(int place, int width) {
            if (place < 1 || place > count || width < 0 || width > MAX_NODES - count) {
                return false;
            }
            for (int node = count - 1; node >= place; node--) {
                renumber(node, node + width, place, width);
            }
            count += width;
            return true;
        }

        /** Takes a subtree out. The root stays: a tree has at least one node. */
        void cutOut(int node) {
            if (node < 1 || node >= count) {
                return;
            }
            int width = widthOf(node);
            int end = node + width;
            for (int later = end; later < count; later++) {
                renumber(later, later - width, end, -width);
            }
            count -= width;
        }

        /** Moves a node to another number, where the numbers from the border on are shifted. */
        private void renumber(int from, int to, int border, int shift) {
            labels[to] = labels[from];
            keys[to] = keys[from];
            values[to] = values[from];
            parents[to] = parents[from] >= border ? parents[from] + shift : parents[from];
            marks[to] = marks[from];
        }

        /** Puts a copy of another tree's subtree below a parent, or refuses when the tree would have too many nodes. */
        boolean graft(Tree source, int top, int parent, int place, int mark) {
            if (!source.holds(top)) {
                return false;
            }
            int width = source.widthOf(top);
            if (!openGap(place, width)) {
                return false;
            }
            for (int step = 0; step < width; step++) {
                int from = top + step;
                int above = step == 0 ? parent : source.parents[from] - top + place;
                setNode(place + step, source.labels[from], source.keys[from], source.values[from], above);
            }
            marks[place] = mark;
            return true;
        }

        void markByNumber() {
            for (int node = 0; node < count; node++) {
                marks[node] = node;
            }
        }

        int findMark(int mark) {
            if (mark == NONE) {
                return NONE;
            }
            for (int node = 0; node < count; node++) {
                if (marks[node] == mark) {
                    return node;
                }
            }
            return NONE;
        }

        boolean equalsAt(int node, Tree other, int otherNode) {
            if (!hasShapeAt(node, other, otherNode)) {
                return false;
            }
            int width = widthOf(node);
            for (int step = 0; step < width; step++) {
                int one = node + step;
                int two = otherNode + step;
                if (labels[one] != other.labels[two]
                        || keys[one] != other.keys[two]
                        || values[one] != other.values[two]) {
                    return false;
                }
            }
            return true;
        }

        /** In preorder, equal distances to the parents mean equal shapes. */
        boolean hasShapeAt(int node, Tree other, int otherNode) {
            int width = widthOf(node);
            if (width != other.widthOf(otherNode)) {
                return false;
            }
            for (int step = 1; step < width; step++) {
                if (parents[node + step] - node != other.parents[otherNode + step] - otherNode) {
                    return false;
                }
            }
            return true;
        }

        /** Goes backwards, so that the hashes of the children are there before they are needed. */
        int hashOf(int node) {
            int end = endOf(node);
            for (int later = end - 1; later >= node; later--) {
                int hash = (labels[later] * 31 + keys[later]) * 31 + values[later];
                for (int child = later + 1; child < end; child++) {
                    if (parents[child] == later) {
                        hash = hash * 31 + hashes[child];
                    }
                }
                hashes[later] = hash * 31 + countChildren(later);
            }
            return hashes[node];
        }

        /** Writes the children of a node into a row, and returns how many there are. */
        int listChildren(int node, int[] row) {
            int found = 0;
            for (int child = node + 1; child < count && found < row.length; child++) {
                if (parents[child] == node) {
                    row[found] = child;
                    found++;
                }
            }
            return found;
        }

        /** Writes the sizes of all subtrees into a row. */
        void listWidths(int[] row) {
            for (int node = 0; node < count && node < row.length; node++) {
                row[node] = widthOf(node);
            }
        }

        boolean isSound() {
            if (count < 1 || count > MAX_NODES || parents[0] != NONE || keys[0] != 0) {
                return false;
            }
            for (int node = 0; node < count; node++) {
                if (!isLabel(labels[node]) || !isKey(keys[node]) || !isValue(values[node])) {
                    return false;
                }
                if (node > 0 && !isSoundChild(node)) {
                    return false;
                }
            }
            return true;
        }

        /** In preorder, a node's parent is the node before it or one above that. */
        private boolean isSoundChild(int node) {
            int above = node - 1;
            for (int steps = 0; above > 0 && above > parents[node] && steps < MAX_NODES; steps++) {
                above = parents[above];
            }
            return above == parents[node] && !hasKey(above, keys[node], node);
        }
    }

    /** The text buffer, and the reader of its content. */
    private static final class TextBuffer {
        private final char[] signs = new char[BUFFER_LENGTH];
        int length;
        /** Where the reader stands; where a wrong text is wrong. */
        int position;
        /** The tree that is read; it is whole only when the text is right. */
        final Tree draft = new Tree();

        boolean append(char character) {
            if (length < 0 || length >= BUFFER_LENGTH) {
                return false;
            }
            signs[length] = character;
            length++;
            return true;
        }

        /** The character at the position, or NONE behind the last one. */
        private int current() {
            return position < 0 || position >= length || position >= BUFFER_LENGTH ? NONE : signs[position];
        }

        /** Reads the content into the draft; answers whether it is the text of a tree. */
        boolean parse() {
            position = 0;
            draft.count = 0;
            int parent = NONE;
            for (int nodes = 0; nodes <= MAX_NODES; nodes++) {
                if (!parseHead(parent)) {
                    return false;
                }
                if (current() == '(') {
                    position++;
                    parent = draft.count - 1;
                } else {
                    parent = closeNodes(parent);
                    if (parent == NONE) {
                        return position == length;
                    }
                }
            }
            return false;
        }

        /** Reads a node up to its children. */
        private boolean parseHead(int parent) {
            int letter = current();
            int node = draft.count;
            if (!isLabel(letter) || node < 0 || node >= MAX_NODES) {
                return false;
            }
            draft.setNode(node, (char) letter, 0, 0, parent);
            draft.count++;
            position++;
            return parseKey(node, parent) && parseNumber(node);
        }

        private boolean parseKey(int node, int parent) {
            if (current() != '#') {
                return true;
            }
            if (parent == NONE) {
                return false;
            }
            position++;
            int key = current() - '0';
            if (key < 1 || key > MAX_KEY || draft.hasKey(parent, key, node)) {
                return false;
            }
            draft.keys[node] = key;
            position++;
            return true;
        }

        private boolean parseNumber(int node) {
            if (current() != '=') {
                return true;
            }
            position++;
            if (!isDigit(current())) {
                return false;
            }
            int number = current() - '0';
            position++;
            if (isDigit(current())) {
                number = number * 10 + current() - '0';
                position++;
            }
            draft.values[node] = number;
            return true;
        }

        /** Reads what closes nodes, and returns the node that is still open, or NONE. */
        private int closeNodes(int parent) {
            int open = parent;
            while (open != NONE && position < length && current() == ')') {
                open = entry(draft.parents, open);
                position++;
            }
            return open;
        }

        boolean isSound() {
            return length >= 0 && length <= BUFFER_LENGTH;
        }
    }

    /** The output line. */
    private static final class Line {
        final char[] signs = new char[LINE_LENGTH];
        int length;

        void append(char character) {
            if (length >= 0 && length < LINE_LENGTH) {
                signs[length] = character;
                length++;
            }
        }

        /** Appends a number from 0 to 99. */
        void appendNumber(int number) {
            if (number >= 10) {
                append((char) ('0' + number / 10));
            }
            append((char) ('0' + number % 10));
        }

        void appendTree(Tree tree) {
            int depth = 0;
            for (int node = 0; node < tree.count; node++) {
                int nextDepth = tree.depthOf(node);
                if (nextDepth > depth) {
                    append('(');
                }
                appendClosings(depth - nextDepth);
                appendHead(tree, node);
                depth = nextDepth;
            }
            appendClosings(depth);
        }

        private void appendClosings(int number) {
            for (int closed = 0; closed < number; closed++) {
                append(')');
            }
        }

        private void appendHead(Tree tree, int node) {
            append(tree.labels[node]);
            if (tree.keys[node] != 0) {
                append('#');
                appendNumber(tree.keys[node]);
            }
            if (tree.values[node] != 0) {
                append('=');
                appendNumber(tree.values[node]);
            }
        }

        boolean isSound() {
            return length >= 0 && length <= LINE_LENGTH;
        }
    }

    /** Finds least costs and the canonical matching by dynamic programming. */
    private static final class Matcher {
        /** The least cost of the subtrees of two nodes that are a pair. */
        private final int[][] pairCosts = new int[MAX_NODES][MAX_NODES];
        /** For one pair, the least cost of its children from these two on. */
        private final int[][] restCosts = new int[MAX_NODES + 1][MAX_NODES + 1];
        private final int[] firstWidths = new int[MAX_NODES];
        private final int[] secondWidths = new int[MAX_NODES];
        private final int[] firstChildren = new int[MAX_NODES];
        private final int[] secondChildren = new int[MAX_NODES];
        private int firstCount;
        private int secondCount;
        /** The canonical matching, from the first tree to the second one and back. */
        final int[] partners = new int[MAX_NODES];
        final int[] backPartners = new int[MAX_NODES];

        /** Goes backwards, so that the costs of the children are there before they are needed. */
        int leastCost(Tree first, Tree second) {
            first.listWidths(firstWidths);
            second.listWidths(secondWidths);
            for (int node = first.count - 1; node >= 0; node--) {
                firstCount = first.listChildren(node, firstChildren);
                for (int other = second.count - 1; other >= 0; other--) {
                    secondCount = second.listChildren(other, secondChildren);
                    fillRestCosts(first, second);
                    pairCosts[node][other] = changeCost(first, node, second, other) + restCosts[0][0];
                }
            }
            return pairCosts[0][0];
        }

        private void fillRestCosts(Tree first, Tree second) {
            for (int one = firstCount; one >= 0; one--) {
                for (int two = secondCount; two >= 0; two--) {
                    restCosts[one][two] = restCost(first, second, one, two);
                }
            }
        }

        private int restCost(Tree first, Tree second, int one, int two) {
            if (one == firstCount) {
                return two == secondCount ? 0 : costWithoutSecond(one, two);
            }
            int least = costWithoutFirst(one, two);
            if (two < secondCount) {
                least = Math.min(least, costWithoutSecond(one, two));
                if (canPair(first, second, one, two)) {
                    least = Math.min(least, costWithPair(one, two));
                }
            }
            return least;
        }

        private boolean canPair(Tree first, Tree second, int one, int two) {
            return first.keys[firstChildren[one]] == second.keys[secondChildren[two]];
        }

        private int costWithPair(int one, int two) {
            return pairCosts[firstChildren[one]][secondChildren[two]] + restCosts[one + 1][two + 1];
        }

        private int costWithoutFirst(int one, int two) {
            return NODE_COST * firstWidths[firstChildren[one]] + restCosts[one + 1][two];
        }

        private int costWithoutSecond(int one, int two) {
            return NODE_COST * secondWidths[secondChildren[two]] + restCosts[one][two + 1];
        }

        /** Finds the canonical matching. The parents come first: their choices decide which children can be pairs. */
        void match(Tree first, Tree second) {
            leastCost(first, second);
            Arrays.fill(partners, NONE);
            Arrays.fill(backPartners, NONE);
            link(0, 0);
            for (int node = 0; node < first.count; node++) {
                int other = partners[node];
                if (other != NONE) {
                    firstCount = first.listChildren(node, firstChildren);
                    secondCount = second.listChildren(other, secondChildren);
                    fillRestCosts(first, second);
                    chooseChildren(first, second);
                }
            }
        }

        private void chooseChildren(Tree first, Tree second) {
            int one = 0;
            int two = 0;
            while (one < firstCount && two < secondCount) {
                int least = restCosts[one][two];
                if (canPair(first, second, one, two) && costWithPair(one, two) == least) {
                    link(firstChildren[one], secondChildren[two]);
                    one++;
                    two++;
                } else if (costWithoutFirst(one, two) == least) {
                    one++;
                } else {
                    two++;
                }
            }
        }

        private void link(int node, int other) {
            partners[node] = other;
            backPartners[other] = node;
        }
    }

    /** What two nodes cost that are a pair, without their children. */
    private static int changeCost(Tree first, int node, Tree second, int other) {
        int cost = 0;
        if (first.labels[node] != second.labels[other]) {
            cost += LABEL_COST;
        }
        if (first.values[node] != second.values[other]) {
            cost += VALUE_COST;
        }
        return cost;
    }

    /** Finds the least cost by trying all matchings, independently of the dynamic programming. */
    private static final class Trial {
        /** The partners of the nodes of the first tree in the matching that is tried. */
        private final int[] tried = new int[MAX_TRIED];
        private int least;

        int leastCost(Tree first, Tree second) {
            tried[0] = 0;
            least = NODE_COST * (first.count + second.count);
            tryFrom(this, first, second, 1);
            return least;
        }

        /** Tries all matchings that agree with the choices for the nodes before this one. */
        private static void tryFrom(Trial trial, Tree first, Tree second, int node) {
            if (node < 1 || node >= MAX_TRIED || node >= first.count) {
                trial.least = Math.min(trial.least, trial.costOfTried(first, second));
                return;
            }
            trial.tried[node] = NONE;
            tryFrom(trial, first, second, node + 1);
            for (int other = 1; other < second.count; other++) {
                if (trial.canPair(first, node, second, other)) {
                    trial.tried[node] = other;
                    tryFrom(trial, first, second, node + 1);
                }
            }
        }

        /** Siblings in order also keep two nodes from having the same partner. */
        private boolean canPair(Tree first, int node, Tree second, int other) {
            int parent = first.parents[node];
            if (first.keys[node] != second.keys[other] || entry(tried, parent) != second.parents[other]) {
                return false;
            }
            for (int sibling = parent + 1; sibling < node; sibling++) {
                if (first.parents[sibling] == parent && tried[sibling] >= other) {
                    return false;
                }
            }
            return true;
        }

        private int costOfTried(Tree first, Tree second) {
            int cost = NODE_COST * (first.count + second.count);
            for (int node = 0; node < first.count && node < MAX_TRIED; node++) {
                int other = tried[node];
                if (other != NONE) {
                    cost += changeCost(first, node, second, other) - 2 * NODE_COST;
                }
            }
            return cost;
        }
    }

    /** The latest script, with copies of its two trees and its canonical matching. */
    private static final class Script {
        boolean made;
        final Tree oldTree = new Tree();
        final Tree newTree = new Tree();
        final int[] partners = new int[MAX_NODES];
        final int[] backPartners = new int[MAX_NODES];
        final char[] kinds = new char[MAX_OPERATIONS];
        /** The node in the old tree, NONE for an insertion. */
        final int[] nodes = new int[MAX_OPERATIONS];
        /** The node in the new tree, NONE for a deletion. */
        final int[] targets = new int[MAX_OPERATIONS];
        int count;

        void compute(Tree first, Tree second, Matcher matcher) {
            oldTree.copyFrom(first);
            newTree.copyFrom(second);
            matcher.match(oldTree, newTree);
            System.arraycopy(matcher.partners, 0, partners, 0, MAX_NODES);
            System.arraycopy(matcher.backPartners, 0, backPartners, 0, MAX_NODES);
            findOperations();
            recognizeMoves();
            removeDropped();
            made = true;
        }

        /**
         * Goes through both trees at once in preorder; nodes without a partner are passed with their subtrees.
         * Each step passes a node, so there are no more steps than operations can be.
         */
        private void findOperations() {
            count = 0;
            int node = 0;
            int other = 0;
            for (int step = 0; step < MAX_OPERATIONS; step++) {
                if (node >= oldTree.count && other >= newTree.count) {
                    return;
                }
                if (node < oldTree.count && partners[node] == other) {
                    addChanges(node, other);
                    node++;
                    other++;
                } else if (isDeletionNext(node, other)) {
                    add(DELETE, node, NONE);
                    node = oldTree.endOf(node);
                } else {
                    add(INSERT, NONE, other);
                    other = newTree.endOf(other);
                }
            }
        }

        /** The deeper node comes first, because the other one is behind the pair whose children are considered. */
        private boolean isDeletionNext(int node, int other) {
            if (node >= oldTree.count) {
                return false;
            }
            if (other >= newTree.count) {
                return true;
            }
            int depth = oldTree.depthOf(node);
            int otherDepth = newTree.depthOf(other);
            return depth == otherDepth ? partners[node] == NONE : depth > otherDepth;
        }

        private void addChanges(int node, int other) {
            if (oldTree.labels[node] != newTree.labels[other]) {
                add(CHANGE_LABEL, node, other);
            }
            if (oldTree.values[node] != newTree.values[other]) {
                add(CHANGE_VALUE, node, other);
            }
        }

        private void add(char kind, int node, int target) {
            if (count < MAX_OPERATIONS) {
                kinds[count] = kind;
                nodes[count] = node;
                targets[count] = target;
                count++;
            }
        }

        private void recognizeMoves() {
            for (int operation = 0; operation < count; operation++) {
                if (kinds[operation] == DELETE) {
                    int insertion = findInsertion(nodes[operation]);
                    if (insertion != NONE) {
                        kinds[insertion] = MOVE;
                        nodes[insertion] = nodes[operation];
                        kinds[operation] = DROPPED;
                    }
                }
            }
        }

        /** The first insertion of a subtree that is equal to the one of a node of the old tree. */
        private int findInsertion(int node) {
            for (int operation = 0; operation < count; operation++) {
                if (kinds[operation] == INSERT && oldTree.equalsAt(node, newTree, targets[operation])) {
                    return operation;
                }
            }
            return NONE;
        }

        private void removeDropped() {
            int found = count;
            count = 0;
            for (int operation = 0; operation < found; operation++) {
                if (kinds[operation] != DROPPED) {
                    add(kinds[operation], nodes[operation], targets[operation]);
                }
            }
        }

        /** The node that the document calls the operation's node. */
        int shownNode(int operation) {
            return kinds[operation] == INSERT ? targets[operation] : nodes[operation];
        }

        int countMoves() {
            int found = 0;
            for (int operation = 0; operation < count; operation++) {
                if (kinds[operation] == MOVE) {
                    found++;
                }
            }
            return found;
        }

        int totalCost() {
            int total = 0;
            for (int operation = 0; operation < count; operation++) {
                total += costOf(operation);
            }
            return total;
        }

        private int costOf(int operation) {
            char kind = kinds[operation];
            if (kind == CHANGE_LABEL) {
                return LABEL_COST;
            }
            if (kind == CHANGE_VALUE) {
                return VALUE_COST;
            }
            if (kind == MOVE) {
                return MOVE_COST;
            }
            Tree tree = kind == DELETE ? oldTree : newTree;
            return NODE_COST * tree.widthOf(shownNode(operation));
        }

        boolean isSound() {
            if (!made) {
                return count == 0;
            }
            return oldTree.isSound() && newTree.isSound() && count >= 0 && count <= MAX_OPERATIONS && hasSoundPairs();
        }

        private boolean hasSoundPairs() {
            for (int node = 0; node < oldTree.count; node++) {
                int other = partners[node];
                if (other != NONE && (!newTree.holds(other) || backPartners[other] != node)) {
                    return false;
                }
            }
            return partners[0] == 0;
        }
    }

    /** Applies a script to a copy of a tree. */
    private static final class Patcher {
        private final Matcher matcher = new Matcher();
        /** The changed copy. The marks are the old numbers, and the topMark for the top of a subtree that is put in. */
        final Tree work = new Tree();
        /** The operation that was a conflict, and why. */
        int stoppedAt = NONE;
        char stopReason = FITS;

        /** Answers whether there is no conflict; if so, the patched tree is in work. */
        boolean apply(Script script, Tree tree) {
            matcher.match(script.oldTree, tree);
            work.copyFrom(tree);
            work.markByNumber();
            return takeAllOut(script, tree) && changeAll(script) && putAllIn(script, tree);
        }

        private boolean takeAllOut(Script script, Tree tree) {
            for (int operation = 0; operation < script.count; operation++) {
                char kind = script.kinds[operation];
                if ((kind == DELETE || kind == MOVE) && stops(operation, takeOut(script, operation, tree))) {
                    return false;
                }
            }
            return true;
        }

        private boolean changeAll(Script script) {
            for (int operation = 0; operation < script.count; operation++) {
                char kind = script.kinds[operation];
                if ((kind == CHANGE_LABEL || kind == CHANGE_VALUE) && stops(operation, change(script, operation))) {
                    return false;
                }
            }
            return true;
        }

        private boolean putAllIn(Script script, Tree tree) {
            for (int operation = 0; operation < script.count; operation++) {
                char kind = script.kinds[operation];
                if ((kind == INSERT || kind == MOVE) && stops(operation, putIn(script, operation, tree))) {
                    return false;
                }
            }
            return true;
        }

        private boolean stops(int operation, char found) {
            if (found == FITS) {
                return false;
            }
            stoppedAt = operation;
            stopReason = found;
            return true;
        }

        private char takeOut(Script script, int operation, Tree tree) {
            boolean isDeletion = script.kinds[operation] == DELETE;
            int node = script.nodes[operation];
            int image = entry(matcher.partners, node);
            if (image == NONE) {
                return isDeletion ? FITS : GONE;
            }
            if (isDeletion && !script.oldTree.equalsAt(node, tree, image)) {
                return CHANGED;
            }
            work.cutOut(work.findMark(image));
            return FITS;
        }

        private char change(Script script, int operation) {
            int node = script.nodes[operation];
            int target = script.targets[operation];
            int place = work.findMark(entry(matcher.partners, node));
            if (place == NONE) {
                return GONE;
            }
            return script.kinds[operation] == CHANGE_LABEL
                    ? changeLabel(place, script.oldTree.labels[node], script.newTree.labels[target])
                    : changeValue(place, script.oldTree.values[node], script.newTree.values[target]);
        }

        private char changeLabel(int place, char before, char after) {
            if (work.labels[place] != before && work.labels[place] != after) {
                return CHANGED;
            }
            work.labels[place] = after;
            return FITS;
        }

        private char changeValue(int place, int before, int after) {
            if (work.values[place] != before && work.values[place] != after) {
                return CHANGED;
            }
            work.values[place] = after;
            return FITS;
        }

        private char putIn(Script script, int operation, Tree tree) {
            int target = script.targets[operation];
            int parent = entry(script.newTree.parents, target);
            int place = work.findMark(imageOf(script, parent));
            if (place == NONE) {
                return GONE;
            }
            if (work.hasKey(place, script.newTree.keys[target], NONE)) {
                return KEY_TAKEN;
            }
            int behind = placeInside(script, parent, target, place);
            // A moved subtree is still whole in the tree, because only the copy is changed.
            boolean isMove = script.kinds[operation] == MOVE;
            boolean fits = isMove
                    ? work.graft(tree, entry(matcher.partners, script.nodes[operation]), place, behind, topMark(target))
                    : work.graft(script.newTree, target, place, behind, topMark(target));
            return fits ? FITS : FULL;
        }

        /** The image of the node with which a node of the new tree is a pair, by its number in the unpatched tree. */
        private int imageOf(Script script, int newNode) {
            return entry(matcher.partners, entry(script.backPartners, newNode));
        }

        private static int topMark(int target) {
            return MAX_NODES + target;
        }

        /** The number that the subtree put in for a target gets, below the node at this place. */
        private int placeInside(Script script, int parent, int target, int place) {
            for (int sibling = target - 1; sibling > parent; sibling--) {
                if (script.newTree.parents[sibling] == parent) {
                    boolean isPaired = script.backPartners[sibling] != NONE;
                    int counterpart = work.findMark(isPaired ? imageOf(script, sibling) : topMark(sibling));
                    if (counterpart != NONE && work.parents[counterpart] == place) {
                        return work.endOf(counterpart);
                    }
                }
            }
            return place + 1;
        }
    }
}
