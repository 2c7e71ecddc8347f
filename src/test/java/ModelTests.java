/** Long runs of calls on the program and on the model of the document; both must answer the same. */
public final class ModelTests {
    private static final int RUNS = 1500;
    private static final int CALLS = 512;

    private final Checks checks;
    private final int run;
    private final Numbers numbers;
    private final TreeDiffer x = new TreeDiffer();
    private final Model m = new Model();
    private int calls;
    /** How many labels, values and keys this run uses: the fewer, the more ties. */
    private final int labels;
    private final int values;
    private final int keys;
    private final int most;

    /** Numbers that are the same in each run of the tests. */
    private static final class Numbers {
        private long state;

        Numbers(long seed) {
            state = seed * 0x9E3779B97F4A7C15L + 12345;
        }

        int below(int bound) {
            state = state * 6364136223846793005L + 1442695040888963407L;
            return (int) ((state >>> 33) % bound);
        }

        boolean once(int in) {
            return below(in) == 0;
        }
    }

    private ModelTests(Checks checks, int run) {
        this.checks = checks;
        this.run = run;
        numbers = new Numbers(run);
        labels = 1 + numbers.below(3);
        values = 1 + numbers.below(3);
        keys = numbers.once(3) ? 1 : 1 + numbers.below(10);
        most = numbers.once(3) ? 20 : 4 + numbers.below(8);
    }

    public static void main(String[] args) {
        Checks checks = new Checks("ModelTests");
        for (int run = 1; run <= RUNS; run++) {
            new ModelTests(checks, run).go();
        }
        checks.close();
    }

    private void go() {
        while (calls < CALLS) {
            switch (numbers.below(8)) {
                case 0 -> readTree(numbers.below(3));
                case 1 -> readWrong();
                case 2 -> change(anyTree());
                case 3 -> patchRound();
                case 4 -> askTrees();
                case 5 -> askDistances();
                case 6 -> askScript();
                default -> askAnything();
            }
        }
    }

    private void same(String call, Checks.Call got, Checks.Call want) {
        if (calls < CALLS) {
            calls++;
            String due = Checks.answerOf(want);
            String what = "run " + run + ", call " + calls + ": " + call;
            if (due.startsWith("throws.")) {
                checks.due(what, due, () -> Checks.answerOf(got));
            } else {
                checks.due(what, due, got);
            }
        }
    }

    // ---- arguments, most of them good ones

    private int anyTree() {
        return numbers.once(40) ? numbers.below(9) - 3 : numbers.below(3);
    }

    private int sizeOf(int tree) {
        return tree < 0 || tree > 2 ? 1 : m.size(tree);
    }

    private int anyNode(int tree) {
        if (numbers.once(30)) {
            return numbers.once(4) ? Integer.MIN_VALUE : numbers.below(24) - 2;
        }
        return numbers.below(sizeOf(tree));
    }

    private char anyLabel() {
        return numbers.once(40) ? (char) numbers.below(300) : (char) ('a' + numbers.below(labels));
    }

    private int anyValue() {
        return numbers.once(30) ? numbers.below(110) - 5 : numbers.below(values);
    }

    private int anyKey() {
        return numbers.once(30) ? numbers.below(14) - 2 : numbers.below(keys);
    }

    // ---- texts

    private void typeAll(String text) {
        for (int index = 0; index < text.length(); index++) {
            char c = text.charAt(index);
            same("type " + c, () -> x.type(c), () -> m.type(c));
        }
    }

    /** A text of a tree whose siblings may have the same keys. */
    private String someText(int nodes, boolean root) {
        StringBuilder text = new StringBuilder().append((char) ('a' + numbers.below(labels)));
        int key = root ? 0 : numbers.below(keys);
        if (key != 0) {
            text.append('#').append(key);
        }
        int value = numbers.below(values);
        if (value != 0) {
            text.append('=').append(value);
        }
        int left = nodes - 1;
        if (left > 0) {
            text.append('(');
            while (left > 0) {
                int part = 1 + numbers.below(left);
                text.append(someText(part, false));
                left -= part;
            }
            text.append(')');
        }
        return text.toString();
    }

    private void readTree(int tree) {
        typeAll(someText(1 + numbers.below(most), true));
        same("read " + tree, () -> x.read(tree), () -> m.read(tree));
        same("errorPosition", x::errorPosition, m::errorPosition);
    }

    private void readWrong() {
        StringBuilder text = new StringBuilder(someText(1 + numbers.below(numbers.once(3) ? 24 : 5), true));
        for (int times = numbers.below(3); times > 0 && text.length() > 0; times--) {
            int at = numbers.below(text.length());
            char c = "abz()()##==0129 A".charAt(numbers.below(17));
            switch (numbers.below(3)) {
                case 0 -> text.insert(at, c);
                case 1 -> text.setCharAt(at, c);
                default -> text.deleteCharAt(at);
            }
        }
        typeAll(text.toString());
        int tree = anyTree();
        same("read " + tree + " " + text, () -> x.read(tree), () -> m.read(tree));
        same("errorPosition " + text, x::errorPosition, m::errorPosition);
        askTree(tree);
    }

    private void askTree(int tree) {
        same("writeTree " + tree, () -> x.writeTree(tree), () -> m.writeTree(tree));
        askLine();
    }

    private void askLine() {
        int length = 0;
        while (!Checks.answerOf(charOf(length)).startsWith("throws.")) {
            length++;
        }
        for (int index = 0; index <= length; index++) {
            int at = index;
            same("charAt " + at, () -> x.charAt(at), charOf(at));
        }
    }

    private Checks.Call charOf(int index) {
        return () -> m.charAt(index);
    }

    // ---- changes

    private void change(int tree) {
        int node = anyNode(tree);
        String where = tree + " " + node;
        switch (numbers.below(6)) {
            case 0, 1 -> add(tree, node);
            case 2 -> same("removeNode " + where, () -> x.removeNode(tree, node), () -> m.removeNode(tree, node));
            case 3 -> {
                char label = anyLabel();
                same("setLabel " + where + " " + label, () -> x.setLabel(tree, node, label),
                        () -> m.setLabel(tree, node, label));
            }
            case 4 -> {
                int key = anyKey();
                same("setKey " + where + " " + key, () -> x.setKey(tree, node, key), () -> m.setKey(tree, node, key));
            }
            default -> {
                int value = anyValue();
                same("setValue " + where + " " + value, () -> x.setValue(tree, node, value),
                        () -> m.setValue(tree, node, value));
            }
        }
    }

    private void add(int tree, int node) {
        int position = numbers.below(numbers.once(10) ? 8 : 3) - (numbers.once(10) ? 1 : 0);
        char label = anyLabel();
        same("addNode " + tree + " " + node + " " + position + " " + label,
                () -> x.addNode(tree, node, position, label), () -> m.addNode(tree, node, position, label));
    }

    private void copy(int from, int to) {
        same("copyTree " + from + " " + to, () -> x.copyTree(from, to), () -> m.copyTree(from, to));
    }

    // ---- scripts and patches

    private void patchRound() {
        int old = numbers.below(3);
        int changed = (old + 1) % 3;
        int patched = (old + 2) % 3;
        if (numbers.once(2)) {
            readTree(old);
        }
        if (!numbers.once(6)) {
            copy(old, changed);
        }
        changeSome(changed);
        if (!numbers.once(6)) {
            copy(old, patched);
        }
        changeSome(patched);
        same("diff", () -> x.diff(old, changed), () -> m.diff(old, changed));
        same("givesTarget", x::givesTarget, m::givesTarget);
        askPatch(patched);
        if (numbers.once(3)) {
            askPatch(numbers.below(3));
        }
    }

    private void changeSome(int tree) {
        for (int times = numbers.below(6); times > 0; times--) {
            change(tree);
            if (numbers.once(4)) {
                moveSome(tree);
            }
        }
    }

    /** Removes a leaf and adds one with the same label elsewhere, so that there is something to move. */
    private void moveSome(int tree) {
        int leaf = m.size(tree) - 1;
        char label = m.label(tree, leaf);
        same("removeNode " + leaf, () -> x.removeNode(tree, leaf), () -> m.removeNode(tree, leaf));
        int parent = numbers.below(m.size(tree));
        same("addNode " + parent, () -> x.addNode(tree, parent, 0, label), () -> m.addNode(tree, parent, 0, label));
    }

    private void askPatch(int tree) {
        same("patch " + tree, () -> x.patch(tree), () -> m.patch(tree));
        same("conflictOperation", x::conflictOperation, m::conflictOperation);
        same("conflictReason", x::conflictReason, m::conflictReason);
        askTree(tree);
        same("isConsistent", x::isConsistent, m::isConsistent);
    }

    private void askScript() {
        int first = anyTree();
        int second = anyTree();
        if (!numbers.once(4)) {
            same("diff " + first + " " + second, () -> x.diff(first, second), () -> m.diff(first, second));
        }
        same("writeScript", x::writeScript, m::writeScript);
        askLine();
        same("operations", x::operations, m::operations);
        same("moves", x::moves, m::moves);
        same("scriptCost", x::scriptCost, m::scriptCost);
        for (int index = numbers.once(4) ? -1 : 0; index < numbers.below(8); index++) {
            int at = index;
            same("opKind " + at, () -> x.opKind(at), () -> m.opKind(at));
            same("opNode " + at, () -> x.opNode(at), () -> m.opNode(at));
            same("opTarget " + at, () -> x.opTarget(at), () -> m.opTarget(at));
            same("partner " + at, () -> x.partner(at), () -> m.partner(at));
        }
    }

    // ---- questions

    private void askDistances() {
        int first = anyTree();
        int second = anyTree();
        String trees = first + " " + second;
        same("distance " + trees, () -> x.distance(first, second), () -> m.distance(first, second));
        same("distanceByMatchings " + trees, () -> x.distanceByMatchings(first, second),
                () -> m.distanceByMatchings(first, second));
        same("similarity " + trees, () -> x.similarity(first, second), () -> m.similarity(first, second));
    }

    private void askTrees() {
        int tree = anyTree();
        int node = anyNode(tree);
        int other = anyTree();
        int otherNode = anyNode(other);
        String where = tree + " " + node;
        same("label " + where, () -> x.label(tree, node), () -> m.label(tree, node));
        same("key " + where, () -> x.key(tree, node), () -> m.key(tree, node));
        same("value " + where, () -> x.value(tree, node), () -> m.value(tree, node));
        same("children " + where, () -> x.children(tree, node), () -> m.children(tree, node));
        same("parent " + where, () -> x.parent(tree, node), () -> m.parent(tree, node));
        same("subtreeSize " + where, () -> x.subtreeSize(tree, node), () -> m.subtreeSize(tree, node));
        same("subtreeHash " + where, () -> x.subtreeHash(tree, node), () -> m.subtreeHash(tree, node));
        same("size " + tree, () -> x.size(tree), () -> m.size(tree));
        where += " " + other;
        same("twin " + where, () -> x.twin(tree, node, other), () -> m.twin(tree, node, other));
        same("shapeTwin " + where, () -> x.shapeTwin(tree, node, other), () -> m.shapeTwin(tree, node, other));
        same("areEqual " + where + " " + otherNode, () -> x.areEqual(tree, node, other, otherNode),
                () -> m.areEqual(tree, node, other, otherNode));
    }

    private void askAnything() {
        int index = numbers.below(30) - 5;
        same("charAt " + index, () -> x.charAt(index), () -> m.charAt(index));
        same("opTarget " + index, () -> x.opTarget(index), () -> m.opTarget(index));
        same("partner " + index, () -> x.partner(index), () -> m.partner(index));
        copy(anyTree(), anyTree());
        int tree = anyTree();
        same("patch " + tree, () -> x.patch(tree), () -> m.patch(tree));
        same("conflictReason", x::conflictReason, m::conflictReason);
        same("isConsistent", x::isConsistent, m::isConsistent);
    }
}
