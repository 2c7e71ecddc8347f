import java.util.ArrayList;
import java.util.EnumSet;
import java.util.List;
import java.util.Set;
import java.util.function.Supplier;

/**
 * Every sentence of the document that says when a call is refused: which exception it throws, at the first values
 * behind each bound and far behind it, that the exception listed first is thrown, and that nothing has changed then.
 */
public final class RefusalTests extends DifferCalls {
    private static final Checks checks = new Checks("RefusalTests");
    /** The last ones would be labels if they were cut to a byte. */
    private static final char[] NO_LABEL = {'`', '{', 'A', 'Z', '0', 0, 65535, 'a' + 256, 'z' + 256};

    /** A call on a differ that is made for it. */
    private interface Use {
        Object on(TreeDiffer x);
    }

    /** What can be asked of a differ. To ask for the buffer changes it and a tree, so it is the last one. */
    private enum Part { LINE, WRONG_TEXT, CONFLICT, SCRIPT, TREES, BUFFER }

    public static void main(String[] args) {
        refusedTexts();
        refusedRead();
        refusedCharAt();
        refusedAddNode();
        refusedRemoveNode();
        refusedSetLabel();
        refusedSetKey();
        refusedSetValue();
        refusedCopyTree();
        refusedQuestionsOfNodes();
        refusedTwins();
        refusedDistances();
        refusedWithoutScript();
        refusedOperations();
        refusedPartner();
        refusedPatch();
        listedFirst();
        refusedManyTimes();
        checks.close();
    }

    // ---- differs to begin with

    private static TreeDiffer fresh() {
        return new TreeDiffer();
    }

    /** All that a differ can keep is kept: a line, a wrong text, a conflict, a script, three trees and a buffer. */
    private static TreeDiffer rich() {
        TreeDiffer x = with("a(b#1c#2(x#9)d#3e#4(y))", "a=1(k#6q#1c#2=1d#3(x#9)f#5)", "a(b#1(z)c#2d#3e#4(y)k#6)");
        Checks.answerOf(() -> read(x, 0, "a(b"));
        x.diff(0, 1);
        Checks.answerOf(() -> x.patch(2));
        x.writeTree(1);
        type(x, "a(b=5)");
        return x;
    }

    /** All that can be full is full: two trees, a script of 40 operations and a buffer of 80 characters. */
    private static TreeDiffer full() {
        TreeDiffer x = new TreeDiffer();
        fullOfChanges(x);
        type(x, "a=1(b=1" + "b=10".repeat(18) + ")");
        return x;
    }

    // ---- what they show

    private static List<String> shown(TreeDiffer x, Set<Part> excepted) {
        List<String> parts = new ArrayList<>();
        for (Part part : Part.values()) {
            if (!excepted.contains(part)) {
                parts.add(part + ": " + shown(x, part));
            }
        }
        return parts;
    }

    private static String shown(TreeDiffer x, Part part) {
        return switch (part) {
            case LINE -> shownLine(x);
            case WRONG_TEXT -> Checks.answerOf(x::errorPosition);
            case CONFLICT -> Checks.answerOf(x::conflictReason) + Checks.answerOf(x::conflictOperation);
            case SCRIPT -> shownScript(x);
            case TREES -> shownTree(x, 0) + shownTree(x, 1) + shownTree(x, 2);
            case BUFFER -> Checks.answerOf(() -> x.read(0)) + shownTree(x, 0) + Checks.answerOf(x::errorPosition);
        };
    }

    private static String shownLine(TreeDiffer x) {
        StringBuilder text = new StringBuilder();
        String answer = Checks.answerOf(() -> x.charAt(0));
        while (!answer.startsWith("throws.")) {
            text.append(answer);
            answer = Checks.answerOf(() -> x.charAt(text.length()));
        }
        return text.toString();
    }

    private static String shownScript(TreeDiffer x) {
        String operations = Checks.answerOf(x::operations);
        if (operations.startsWith("throws.")) {
            return operations;
        }
        StringBuilder text = new StringBuilder().append(x.scriptCost());
        for (int operation = 0; operation < Integer.parseInt(operations); operation++) {
            int number = operation;
            text.append(' ').append(x.opKind(number)).append(x.opNode(number));
            text.append('/').append(Checks.answerOf(() -> x.opTarget(number)));
        }
        for (int node = 0; node < 7; node++) {
            int number = node;
            text.append(' ').append(Checks.answerOf(() -> x.partner(number)));
        }
        return text.toString();
    }

    private static String shownTree(TreeDiffer x, int tree) {
        return " " + x.size(tree) + "/" + x.subtreeHash(tree, 0) + " ";
    }

    // ---- checks

    private static void refused(String what, Class<? extends RuntimeException> want, Supplier<TreeDiffer> made,
            Use call) {
        refusedBut(EnumSet.noneOf(Part.class), what, want, made, call);
    }

    /** A call is refused and changes nothing but these parts. */
    private static void refusedBut(Set<Part> changed, String what, Class<? extends RuntimeException> want,
            Supplier<TreeDiffer> made, Use call) {
        TreeDiffer untouched = made.get();
        TreeDiffer touched = made.get();
        checks.thrown(what, want, () -> call.on(touched));
        checks.due(what + ": the invariants hold", true, touched::isConsistent);
        checks.due(what + ": nothing else has changed", shown(untouched, changed), () -> shown(touched, changed));
    }

    /** Numbers behind the bounds from 0 to the last one. */
    private static int[] outside(int last) {
        return new int[] {-1, last + 1, last + 2, 256, 65536, Integer.MAX_VALUE, Integer.MIN_VALUE};
    }

    // ---- texts

    private static void refusedTexts() {
        refused("2 type: the buffer contains 80 characters", STATE, RefusalTests::full, x -> x.type('a'));
        refused("2 type: another character", STATE, RefusalTests::full, x -> x.type((char) 65535));
        refused("4 errorPosition: there was no wrong text", ELEMENT, RefusalTests::fresh, TreeDiffer::errorPosition);
        for (int tree : NO_TREE) {
            refused("5 writeTree: no such tree " + tree, BOUNDS, RefusalTests::rich, x -> x.writeTree(tree));
            refused("5 writeTree: no such tree, an empty line", BOUNDS, RefusalTests::fresh, x -> x.writeTree(tree));
        }
        refused("6 writeScript: there is no script", STATE, RefusalTests::fresh, TreeDiffer::writeScript);
        refused("6 writeScript: there is no script, and a line", STATE, RefusalTests::withLine,
                TreeDiffer::writeScript);
    }

    private static TreeDiffer withLine() {
        TreeDiffer x = with("a(b)");
        x.writeTree(0);
        return x;
    }

    private static void refusedRead() {
        for (int tree : NO_TREE) {
            refused("3 read: no such tree " + tree, BOUNDS, RefusalTests::rich, x -> x.read(tree));
            refused("3 read: no such tree, 80 characters", BOUNDS, RefusalTests::full, x -> x.read(tree));
            refused("3 read: no such tree, an empty buffer", BOUNDS, RefusalTests::fresh, x -> x.read(tree));
        }
        wrongText("an empty buffer", "", 0);
        wrongText("the first character", "?a(b)", 0);
        wrongText("behind the whole text of a tree", "a(b)a(b)", 4);
        wrongText("only the beginning", "a(b", 3);
        wrongText("80 characters", "(".repeat(80), 0);
        wrongText("80 characters and no end", "a=1(" + "b=10".repeat(19), 80);
    }

    /** "The buffer is empty afterwards, also if the text is wrong", and "its error position is recorded". */
    private static void wrongText(String what, String text, int position) {
        Supplier<TreeDiffer> made = () -> {
            TreeDiffer x = with("a(bc)", "a(b)", "z");
            x.diff(0, 1);
            x.writeTree(0);
            type(x, text);
            return x;
        };
        for (int tree = 0; tree < 3; tree++) {
            int number = tree;
            refusedBut(EnumSet.of(Part.WRONG_TEXT, Part.BUFFER), "3 read: the text is wrong: " + what, ARGUMENT, made,
                    x -> x.read(number));
        }
        TreeDiffer x = made.get();
        Checks.answerOf(() -> x.read(1));
        checks.due("3 read: its error position is recorded: " + what, position, x::errorPosition);
        checks.due("3 read: the buffer is empty afterwards: " + what, 1, () -> x.type('m'));
        checks.due("3 read: the next text is read: " + what, 1, () -> x.read(1));
    }

    private static void refusedCharAt() {
        int last = with("a(b#1c#2(x#9)d#3e#4(y))", "a=1(k#6q#1c#2=1d#3(x#9)f#5)").writeTree(1) - 1;
        for (int index : outside(last)) {
            refused("7 charAt: negative or not less " + index, BOUNDS, RefusalTests::rich, x -> x.charAt(index));
        }
        for (int index : outside(-1)) {
            refused("7 charAt: an empty line " + index, BOUNDS, RefusalTests::fresh, x -> x.charAt(index));
        }
    }

    // ---- trees

    private static void refusedAddNode() {
        for (int tree : NO_TREE) {
            refused("8 addNode: no such tree " + tree, BOUNDS, RefusalTests::rich, x -> x.addNode(tree, 0, 0, 'b'));
        }
        for (int parent : outside(6)) {
            refused("8 addNode: no such parent " + parent, BOUNDS, RefusalTests::rich,
                    x -> x.addNode(0, parent, 0, 'b'));
        }
        for (int position : outside(4)) {
            refused("8 addNode: no such position " + position, BOUNDS, RefusalTests::rich,
                    x -> x.addNode(0, 0, position, 'b'));
        }
        for (int position : outside(0)) {
            refused("8 addNode: no such position in a leaf " + position, BOUNDS, RefusalTests::rich,
                    x -> x.addNode(0, 1, position, 'b'));
        }
        for (char label : NO_LABEL) {
            refused("8 addNode: no such label " + (int) label, ARGUMENT, RefusalTests::rich,
                    x -> x.addNode(0, 0, 0, label));
        }
        for (int parent = 0; parent < 20; parent++) {
            int number = parent;
            refused("8 addNode: the tree has 20 nodes", STATE, RefusalTests::full, x -> x.addNode(0, number, 0, 'b'));
        }
        refused("8 addNode: the tree has 20 nodes, behind all", STATE, RefusalTests::full,
                x -> x.addNode(1, 0, 19, 'b'));
    }

    private static void refusedRemoveNode() {
        for (int tree : NO_TREE) {
            refused("9 removeNode: no such tree " + tree, BOUNDS, RefusalTests::rich, x -> x.removeNode(tree, 1));
        }
        for (int node : outside(6)) {
            refused("9 removeNode: no such node " + node, BOUNDS, RefusalTests::rich, x -> x.removeNode(0, node));
        }
        for (int node : outside(19)) {
            refused("9 removeNode: no such node of 20 " + node, BOUNDS, RefusalTests::full, x -> x.removeNode(0, node));
        }
        refused("9 removeNode: the root", UNSUPPORTED, RefusalTests::rich, x -> x.removeNode(0, 0));
        refused("9 removeNode: the root of 20 nodes", UNSUPPORTED, RefusalTests::full, x -> x.removeNode(1, 0));
        refused("9 removeNode: the only node", UNSUPPORTED, RefusalTests::fresh, x -> x.removeNode(2, 0));
    }

    private static void refusedSetLabel() {
        for (int tree : NO_TREE) {
            refused("10 setLabel: no such tree " + tree, BOUNDS, RefusalTests::rich, x -> x.setLabel(tree, 0, 'b'));
        }
        for (int node : outside(6)) {
            refused("10 setLabel: no such node " + node, BOUNDS, RefusalTests::rich, x -> x.setLabel(0, node, 'b'));
        }
        for (char label : NO_LABEL) {
            refused("10 setLabel: no such label " + (int) label, ARGUMENT, RefusalTests::rich,
                    x -> x.setLabel(0, 6, label));
        }
    }

    private static void refusedSetKey() {
        for (int tree : NO_TREE) {
            refused("11 setKey: no such tree " + tree, BOUNDS, RefusalTests::rich, x -> x.setKey(tree, 1, 7));
        }
        for (int node : outside(6)) {
            refused("11 setKey: no such node " + node, BOUNDS, RefusalTests::rich, x -> x.setKey(0, node, 7));
        }
        for (int key : outside(9)) {
            refused("11 setKey: out of range " + key, ARGUMENT, RefusalTests::rich, x -> x.setKey(0, 6, key));
        }
        for (int key = 0; key <= 9; key++) {
            int number = key;
            refused("11 setKey: the root " + key, UNSUPPORTED, RefusalTests::rich, x -> x.setKey(0, 0, number));
            refused("11 setKey: the only node " + key, UNSUPPORTED, RefusalTests::fresh,
                    x -> x.setKey(0, 0, number));
        }
        refused("11 setKey: an earlier sibling has it", STATE, RefusalTests::rich, x -> x.setKey(0, 5, 1));
        refused("11 setKey: the sibling before has it", STATE, RefusalTests::rich, x -> x.setKey(0, 5, 3));
        refused("11 setKey: the sibling behind has it", STATE, RefusalTests::rich, x -> x.setKey(0, 1, 2));
        refused("11 setKey: the last sibling has it", STATE, RefusalTests::rich, x -> x.setKey(0, 1, 4));
    }

    private static void refusedSetValue() {
        for (int tree : NO_TREE) {
            refused("12 setValue: no such tree " + tree, BOUNDS, RefusalTests::rich, x -> x.setValue(tree, 0, 1));
        }
        for (int node : outside(6)) {
            refused("12 setValue: no such node " + node, BOUNDS, RefusalTests::rich, x -> x.setValue(0, node, 1));
        }
        for (int value : outside(99)) {
            refused("12 setValue: out of range " + value, ARGUMENT, RefusalTests::rich, x -> x.setValue(0, 6, value));
        }
    }

    private static void refusedCopyTree() {
        for (int tree : NO_TREE) {
            refused("13 copyTree: no such first " + tree, BOUNDS, RefusalTests::rich, x -> x.copyTree(tree, 2));
            refused("13 copyTree: no such second " + tree, BOUNDS, RefusalTests::rich, x -> x.copyTree(0, tree));
            refused("13 copyTree: neither " + tree, BOUNDS, RefusalTests::rich, x -> x.copyTree(tree, tree));
        }
    }

    private static void refusedQuestionsOfNodes() {
        for (int tree : NO_TREE) {
            refused("14 size: no such tree " + tree, BOUNDS, RefusalTests::rich, x -> x.size(tree));
            refusedQuestions("no such tree " + tree, tree, 0);
            refusedQuestions("neither " + tree, tree, tree);
        }
        for (int node : outside(6)) {
            refusedQuestions("no such node " + node, 0, node);
        }
        for (int node : outside(6)) {
            refusedQuestions("no such node " + node, 1, node);
        }
        refused("19 parent: the root", ELEMENT, RefusalTests::rich, x -> x.parent(0, 0));
        refused("19 parent: the only node", ELEMENT, RefusalTests::fresh, x -> x.parent(2, 0));
    }

    private static void refusedQuestions(String what, int tree, int node) {
        refused("15 label: " + what, BOUNDS, RefusalTests::rich, x -> x.label(tree, node));
        refused("16 key: " + what, BOUNDS, RefusalTests::rich, x -> x.key(tree, node));
        refused("17 value: " + what, BOUNDS, RefusalTests::rich, x -> x.value(tree, node));
        refused("18 children: " + what, BOUNDS, RefusalTests::rich, x -> x.children(tree, node));
        refused("19 parent: " + what, BOUNDS, RefusalTests::rich, x -> x.parent(tree, node));
        refused("20 subtreeSize: " + what, BOUNDS, RefusalTests::rich, x -> x.subtreeSize(tree, node));
        refused("21 subtreeHash: " + what, BOUNDS, RefusalTests::rich, x -> x.subtreeHash(tree, node));
        refused("22 areEqual: first, " + what, BOUNDS, RefusalTests::rich, x -> x.areEqual(tree, node, 2, 0));
        refused("22 areEqual: second, " + what, BOUNDS, RefusalTests::rich, x -> x.areEqual(2, 0, tree, node));
        refused("22 areEqual: both, " + what, BOUNDS, RefusalTests::rich, x -> x.areEqual(tree, node, tree, node));
        refused("23 twin: " + what, BOUNDS, RefusalTests::rich, x -> x.twin(tree, node, 0));
        refused("24 shapeTwin: " + what, BOUNDS, RefusalTests::rich, x -> x.shapeTwin(tree, node, 0));
    }

    private static void refusedTwins() {
        for (int tree : NO_TREE) {
            refused("23 twin: no such other tree " + tree, BOUNDS, RefusalTests::rich, x -> x.twin(0, 0, tree));
            refused("24 shapeTwin: no such other tree " + tree, BOUNDS, RefusalTests::rich,
                    x -> x.shapeTwin(0, 0, tree));
        }
        refused("23 twin: no such node", ELEMENT, RefusalTests::rich, x -> x.twin(0, 0, 1));
        refused("23 twin: none in a tree of one node", ELEMENT, () -> with("a=1"), x -> x.twin(0, 0, 1));
        refused("23 twin: none in a tree of 20 nodes", ELEMENT, RefusalTests::full, x -> x.twin(2, 0, 0));
        refused("24 shapeTwin: no such node", ELEMENT, RefusalTests::rich, x -> x.shapeTwin(0, 0, 1));
        refused("24 shapeTwin: none in a tree of one node", ELEMENT, () -> with("a(a)"), x -> x.shapeTwin(0, 0, 1));
        refused("24 shapeTwin: none of two levels", ELEMENT, () -> with("a(a(a))", TWENTY),
                x -> x.shapeTwin(0, 1, 1));
    }

    // ---- distances and scripts

    private static void refusedDistances() {
        for (int tree : NO_TREE) {
            refusedDistances("no such first tree " + tree, tree, 0);
            refusedDistances("no such second tree " + tree, 0, tree);
            refusedDistances("neither " + tree, tree, tree);
        }
        Supplier<TreeDiffer> sevenAndEight = () -> with("a(bcdefg)", "a(bcdefgh)", "a(b(c(d(e(f(g(h)))))))");
        for (int tree = 1; tree < 3; tree++) {
            int eight = tree;
            refused("26 distanceByMatchings: the first one has 8", UNSUPPORTED, sevenAndEight,
                    x -> x.distanceByMatchings(eight, 0));
            refused("26 distanceByMatchings: the second one has 8", UNSUPPORTED, sevenAndEight,
                    x -> x.distanceByMatchings(0, eight));
            refused("26 distanceByMatchings: both have 8", UNSUPPORTED, sevenAndEight,
                    x -> x.distanceByMatchings(1, eight));
            refused("26 distanceByMatchings: 20 nodes", UNSUPPORTED, RefusalTests::full,
                    x -> x.distanceByMatchings(0, eight));
        }
    }

    private static void refusedDistances(String what, int first, int second) {
        refused("25 distance: " + what, BOUNDS, RefusalTests::rich, x -> x.distance(first, second));
        refused("26 distanceByMatchings: " + what, BOUNDS, RefusalTests::rich,
                x -> x.distanceByMatchings(first, second));
        refused("27 similarity: " + what, BOUNDS, RefusalTests::rich, x -> x.similarity(first, second));
        refused("28 diff: " + what, BOUNDS, RefusalTests::rich, x -> x.diff(first, second));
        refused("28 diff: still no script, " + what, BOUNDS, RefusalTests::fresh, x -> x.diff(first, second));
    }

    private static void refusedWithoutScript() {
        refused("29 operations: there is no script", STATE, RefusalTests::fresh, TreeDiffer::operations);
        refused("30 opKind: there is no script", STATE, RefusalTests::fresh, x -> x.opKind(0));
        refused("31 opNode: there is no script", STATE, RefusalTests::fresh, x -> x.opNode(0));
        refused("32 opTarget: there is no script", STATE, RefusalTests::fresh, x -> x.opTarget(0));
        refused("33 partner: there is no script", STATE, RefusalTests::fresh, x -> x.partner(0));
        refused("34 moves: there is no script", STATE, RefusalTests::fresh, TreeDiffer::moves);
        refused("35 scriptCost: there is no script", STATE, RefusalTests::fresh, TreeDiffer::scriptCost);
        refused("36 givesTarget: there is no script", STATE, RefusalTests::fresh, TreeDiffer::givesTarget);
        for (int tree = 0; tree < 3; tree++) {
            int number = tree;
            refused("37 patch: there is no script", STATE, RefusalTests::withLine, x -> x.patch(number));
        }
    }

    private static void refusedOperations() {
        refusedOperations("7 operations", 6, RefusalTests::rich);
        refusedOperations("40 operations", 39, RefusalTests::full);
        refusedOperations("an empty script", -1, () -> {
            TreeDiffer x = with("a(b)");
            x.diff(0, 0);
            return x;
        });
        // Fewer operations than before: the earlier ones are gone.
        refusedOperations("one operation after seven", 0, () -> {
            TreeDiffer x = allKinds();
            x.copyTree(2, 0);
            x.setLabel(0, 0, 'z');
            x.diff(2, 0);
            return x;
        });
        refused("32 opTarget: a deletion", ELEMENT, RefusalTests::rich, x -> x.opTarget(5));
    }

    private static void refusedOperations(String what, int last, Supplier<TreeDiffer> made) {
        for (int operation : outside(last)) {
            refused("30 opKind: " + what + " " + operation, BOUNDS, made, x -> x.opKind(operation));
            refused("31 opNode: " + what + " " + operation, BOUNDS, made, x -> x.opNode(operation));
            refused("32 opTarget: " + what + " " + operation, BOUNDS, made, x -> x.opTarget(operation));
        }
    }

    private static void refusedPartner() {
        for (int node : outside(6)) {
            refused("33 partner: no such node " + node, BOUNDS, RefusalTests::rich, x -> x.partner(node));
        }
        for (int node : outside(19)) {
            refused("33 partner: no such node of 20 " + node, BOUNDS, () -> {
                TreeDiffer x = with(TWENTY);
                x.diff(0, 1);
                return x;
            }, x -> x.partner(node));
        }
        // The number is one of the new tree, but not one of the old tree.
        for (int node : outside(0)) {
            refused("33 partner: no such node in the old tree " + node, BOUNDS, () -> {
                TreeDiffer x = with("a", TWENTY);
                x.diff(0, 1);
                return x;
            }, x -> x.partner(node));
        }
        refused("33 partner: a moved node belongs to no pair", ELEMENT, RefusalTests::rich, x -> x.partner(3));
        refused("33 partner: a deleted node belongs to no pair", ELEMENT, RefusalTests::rich, x -> x.partner(5));
        refused("33 partner: nor does a node below it", ELEMENT, RefusalTests::rich, x -> x.partner(6));
    }

    // ---- patches

    private static void refusedPatch() {
        for (int tree : NO_TREE) {
            refused("37 patch: no such tree " + tree, BOUNDS, RefusalTests::rich, x -> x.patch(tree));
            refused("37 patch: no such tree, no script", BOUNDS, RefusalTests::fresh, x -> x.patch(tree));
        }
        conflict("c0", "a(b#1c#2)", "a(c#2)", "a(b#1(n)c#2)");
        conflict("c1", "a(b#1c#2)", "z(b#1)", "a(b#1c#2=1)");
        conflict("c1", "a(b#1)", "a=5(c#1)", "a(d#1)");
        conflict("g2", "a(b#1(m#9)c#2)", "z=5(b#1c#2(m#9))", "a(b#1c#2)");
        conflict("g1", "a(b#1(c))", "z(b#1=5(c=5))", "a");
        conflict("k1", "a", "a=5(b#1)", "a(c#1)");
        conflict("f1", "a", "z(b)", TWENTY);
        refused("38 conflictOperation: there was no conflict", ELEMENT, RefusalTests::fresh,
                TreeDiffer::conflictOperation);
        refused("39 conflictReason: there was no conflict", ELEMENT, RefusalTests::fresh, TreeDiffer::conflictReason);
        refused("38 conflictOperation: a patch without one", ELEMENT, RefusalTests::patchedWell,
                TreeDiffer::conflictOperation);
        refused("39 conflictReason: a patch without one", ELEMENT, RefusalTests::patchedWell,
                TreeDiffer::conflictReason);
    }

    private static TreeDiffer patchedWell() {
        TreeDiffer x = allKinds();
        x.patch(0);
        return x;
    }

    /** "There is a conflict; it is recorded", and "the whole patch is not applied". */
    private static void conflict(String want, String first, String second, String third) {
        String what = "37 patch: a conflict " + want + " " + third;
        Supplier<TreeDiffer> made = () -> {
            TreeDiffer x = with(first, second, third);
            Checks.answerOf(() -> read(x, 0, "?"));
            x.diff(0, 1);
            x.writeScript();
            type(x, "a(b)");
            return x;
        };
        refusedBut(EnumSet.of(Part.CONFLICT), what, UNSUPPORTED, made, x -> x.patch(2));
        TreeDiffer x = made.get();
        Checks.answerOf(() -> x.patch(2));
        checks.due(what + ": it is recorded", want, () -> "" + x.conflictReason() + x.conflictOperation());
        checks.due(what + ": the tree stays", third, () -> tree(x, 2));
    }

    // ---- several conditions

    /** "If several conditions for an exception hold, the exception that is listed first is thrown." */
    private static void listedFirst() {
        for (int tree : NO_TREE) {
            refused("3 no tree before a wrong text", BOUNDS, RefusalTests::withWrongText, x -> x.read(tree));
            refused("8 no tree before no label and 20 nodes", BOUNDS, RefusalTests::full,
                    x -> x.addNode(tree, 0, 0, '{'));
            refused("9 no tree before the root", BOUNDS, RefusalTests::rich, x -> x.removeNode(tree, 0));
            refused("10 no tree before no label", BOUNDS, RefusalTests::rich, x -> x.setLabel(tree, 0, '`'));
            refused("11 no tree before the range and the root", BOUNDS, RefusalTests::rich,
                    x -> x.setKey(tree, 0, 10));
            refused("11 no tree before the root", BOUNDS, RefusalTests::rich, x -> x.setKey(tree, 0, 1));
            refused("12 no tree before the range", BOUNDS, RefusalTests::rich, x -> x.setValue(tree, 0, 100));
            refused("19 no tree before the root", BOUNDS, RefusalTests::rich, x -> x.parent(tree, 0));
            refused("23 no tree before none found", BOUNDS, RefusalTests::rich, x -> x.twin(0, 0, tree));
            refused("24 no tree before none found", BOUNDS, RefusalTests::rich, x -> x.shapeTwin(0, 0, tree));
            refused("26 no first tree before too many nodes", BOUNDS, RefusalTests::full,
                    x -> x.distanceByMatchings(tree, 1));
            refused("26 no second tree before too many nodes", BOUNDS, RefusalTests::full,
                    x -> x.distanceByMatchings(1, tree));
            refused("37 no tree before no script", BOUNDS, RefusalTests::withLine, x -> x.patch(tree));
        }
        for (int node : outside(19)) {
            refused("8 no parent before no label and 20 nodes", BOUNDS, RefusalTests::full,
                    x -> x.addNode(0, node, 0, '{'));
            refused("8 no parent before 20 nodes", BOUNDS, RefusalTests::full, x -> x.addNode(0, node, 0, 'b'));
            refused("8 no position before no label and 20 nodes", BOUNDS, RefusalTests::full,
                    x -> x.addNode(0, 0, node, '{'));
            refused("8 no position before 20 nodes", BOUNDS, RefusalTests::full, x -> x.addNode(0, 0, node, 'b'));
            refused("10 no node before no label", BOUNDS, RefusalTests::full, x -> x.setLabel(0, node, '`'));
            refused("11 no node before the range", BOUNDS, RefusalTests::full, x -> x.setKey(0, node, -1));
            refused("12 no node before the range", BOUNDS, RefusalTests::full, x -> x.setValue(0, node, -1));
        }
        for (char label : NO_LABEL) {
            refused("8 no label before 20 nodes", ARGUMENT, RefusalTests::full, x -> x.addNode(0, 0, 0, label));
        }
        for (int key : outside(9)) {
            refused("11 the range before the root", ARGUMENT, RefusalTests::rich, x -> x.setKey(0, 0, key));
        }
        for (int number : outside(-1)) {
            refused("30 no script before no operation", STATE, RefusalTests::fresh, x -> x.opKind(number));
            refused("31 no script before no operation", STATE, RefusalTests::fresh, x -> x.opNode(number));
            refused("32 no script before no operation", STATE, RefusalTests::fresh, x -> x.opTarget(number));
            refused("33 no script before no node", STATE, RefusalTests::fresh, x -> x.partner(number));
        }
    }

    private static TreeDiffer withWrongText() {
        TreeDiffer x = new TreeDiffer();
        type(x, "a(b))");
        return x;
    }

    /** A refused call is refused again, as long as an object is used. */
    private static void refusedManyTimes() {
        TreeDiffer x = full();
        for (int times = 0; times < 100; times++) {
            checks.thrown("2 refused again", STATE, () -> x.type('a'));
            checks.thrown("8 refused again", STATE, () -> x.addNode(0, 0, 0, 'b'));
            checks.thrown("9 refused again", UNSUPPORTED, () -> x.removeNode(0, 0));
        }
        checks.due("2 none of them was appended", 20, () -> x.read(2));
        checks.due("8 none of them was added", 20, () -> x.size(0));
    }
}
