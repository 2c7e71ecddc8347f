/**
 * Every sentence of the document that names a boundary, on the side that is still accepted and one step behind it:
 * smallest and greatest, empty and full, overflow, nothing left. The promise's number stands first in each line.
 * ScriptBoundaryTests has the scripts and patches, RefusalTests the calls that are refused.
 */
public final class BoundaryTests extends DifferCalls {
    private static final Checks checks = new Checks("BoundaryTests");

    /** A call of a new differ with a character. */
    private interface CharacterUse {
        Object on(TreeDiffer x, char character);
    }

    /** Adds a node to a tree of so many nodes. */
    private interface Growth {
        int add(TreeDiffer x, int size);
    }

    public static void main(String[] args) {
        allCallsOfAnObject();
        oneToTwentyNodes();
        lastOfTwentyNodes();
        positionsOfNewNodes();
        labels();
        keys();
        keysOfSiblings();
        values();
        numbersOfNodes();
        newObject();
        copies();
        equalSubtrees();
        sameShapes();
        overflowingHashes();
        distances();
        sevenNodes();
        similarities();
        textBuffer();
        grammar();
        additionalRules();
        everyCharacterOfAText();
        beginningsOfTexts();
        writtenTexts();
        outputLine();
        consistency();
        checks.close();
    }

    // ---- what it is

    /** "An object is used for at most 512 calls": it answers up to the last one, also the dearest calls. */
    private static void allCallsOfAnObject() {
        TreeDiffer stars = with("a(bcdefg)", "a(gfedcb)");
        lasts("26 the most matchings", 20, 16, () -> stars.distanceByMatchings(0, 1));
        TreeDiffer chains = with("a(b(c(d(e(f(g))))))", "g(f(e(d(c(b(a))))))");
        lasts("26 the deepest matchings", 40, 18, () -> chains.distanceByMatchings(0, 1));
        TreeDiffer script = new TreeDiffer();
        fullOfChanges(script);
        lasts("28 the longest script", 67, 40, () -> script.diff(0, 1));
        TreeDiffer target = new TreeDiffer();
        fullOfChanges(target);
        lasts("36 the longest script", 67, true, target::givesTarget);
        TreeDiffer patch = new TreeDiffer();
        fullOfChanges(patch);
        lasts("37 the longest script", 67, 20, () -> patch.patch(0));
        TreeDiffer conflicts = with("a", "b", "c");
        conflicts.diff(0, 1);
        lasts("37 a conflict", 7, "throws.UnsupportedOperationException",
                () -> Checks.answerOf(() -> conflicts.patch(2)));
        TreeDiffer texts = new TreeDiffer();
        lasts("3 a wrong text", 0, "throws.IllegalArgumentException", () -> Checks.answerOf(() -> texts.read(0)));
        TreeDiffer lines = with(CHAIN);
        lasts("5 the deepest tree", 59, 58, () -> lines.writeTree(0));
    }

    private static void lasts(String what, int callsBefore, Object want, Checks.Call call) {
        for (int number = callsBefore + 1; number <= 512; number++) {
            checks.due(what + ", call " + number, want, call);
        }
    }

    // ---- trees

    /** "A tree consists of 1 to 20 nodes." */
    private static void oneToTwentyNodes() {
        grows("8 a star, behind all", TWENTY, (x, size) -> x.addNode(0, 0, size - 1, 'b'));
        grows("8 a star, before all", TWENTY, (x, size) -> x.addNode(0, 0, 0, 'b'));
        grows("8 a chain", CHAIN, (x, size) -> x.addNode(0, size - 1, 0, (char) ('a' + size)));
        TreeDiffer x = with(CHAIN);
        for (int size = 19; size >= 1; size--) {
            int left = size;
            checks.due("9 down to one node", left, () -> x.removeNode(0, left));
        }
        checks.thrown("9 one node stays", UNSUPPORTED, () -> x.removeNode(0, 0));
        checks.due("9 the root is left", "a", () -> tree(x, 0));
        TreeDiffer y = with(CHAIN, TWENTY);
        checks.due("9 19 nodes at once", 1, () -> y.removeNode(0, 1));
        checks.due("8 room again", 1, () -> y.addNode(0, 0, 0, 'z'));
        checks.due("9 the last of 20", 19, () -> y.removeNode(1, 19));
        checks.due("8 the 20th again", 19, () -> y.addNode(1, 0, 18, 'c'));
        checks.thrown("8 no 21st", STATE, () -> y.addNode(1, 0, 19, 'c'));
        checks.due("3 one node over 20", 1, () -> read(y, 1, "q"));
        checks.due("3 20 nodes over one", 20, () -> read(y, 1, TWENTY));
        checks.due("3 a chain of 20", 20, () -> read(y, 1, CHAIN));
        checks.thrown("3 21 nodes", ARGUMENT, () -> read(y, 1, "a(bbbbbbbbbbbbbbbbbbbb)"));
        checks.due("3 the chain stays", CHAIN, () -> tree(y, 1));
    }

    private static void grows(String what, String want, Growth growth) {
        TreeDiffer x = new TreeDiffer();
        for (int size = 1; size < 20; size++) {
            growth.add(x, size);
            int grown = size + 1;
            checks.due(what + ", size", grown, () -> x.size(0));
        }
        checks.due(what + ", 20 nodes", want, () -> tree(x, 0));
        checks.thrown(what + ", no 21st", STATE, () -> growth.add(x, 20));
        checks.due(what + ", 20 nodes stay", want, () -> tree(x, 0));
    }

    private static void lastOfTwentyNodes() {
        TreeDiffer x = with(CHAIN, TWENTY);
        checks.due("10 the last of 20", 1, () -> x.setLabel(0, 19, 'z'));
        checks.due("10 all 20 have it", 20, () -> x.setLabel(1, 0, 'b'));
        checks.due("11 the last of 20", 0, () -> x.setKey(0, 19, 9));
        checks.due("12 the last of 20", 0, () -> x.setValue(0, 19, 99));
        checks.due("15 the last of 20", 'z', () -> x.label(0, 19));
        checks.due("16 the last of 20", 9, () -> x.key(0, 19));
        checks.due("17 the last of 20", 99, () -> x.value(0, 19));
        checks.due("18 no children", 0, () -> x.children(0, 19));
        checks.due("18 one child", 1, () -> x.children(0, 18));
        checks.due("18 19 children", 19, () -> x.children(1, 0));
        checks.due("19 the last of a chain", 18, () -> x.parent(0, 19));
        checks.due("19 the last of a star", 0, () -> x.parent(1, 19));
        checks.due("20 the node itself included", 1, () -> x.subtreeSize(0, 19));
        checks.due("20 two nodes", 2, () -> x.subtreeSize(0, 18));
        checks.due("20 the whole tree", 20, () -> x.subtreeSize(0, 0));
    }

    /** "The number of children of the parent that come before it", "from 0 to the number of children". */
    private static void positionsOfNewNodes() {
        for (int position = 0; position <= 3; position++) {
            int number = position;
            TreeDiffer x = with("a(b(bb)c(c)d)");
            int[] places = {1, 4, 6, 7};
            checks.due("8 position " + number, places[number], () -> x.addNode(0, 0, number, 'z'));
            checks.due("8 its label", 'z', () -> x.label(0, places[number]));
            checks.due("8 its parent", 0, () -> x.parent(0, places[number]));
            checks.due("8 no children", 0, () -> x.children(0, places[number]));
            checks.due("8 no key", 0, () -> x.key(0, places[number]));
            checks.due("8 value 0", 0, () -> x.value(0, places[number]));
            checks.due("8 one node more", 8, () -> x.size(0));
        }
        TreeDiffer y = with("a(b)");
        checks.due("8 the only position of a leaf", 2, () -> y.addNode(0, 1, 0, 'z'));
        checks.thrown("8 another position of a leaf", BOUNDS, () -> y.addNode(0, 2, 1, 'z'));
        // The places behind the nodes were used before, with keys and values.
        TreeDiffer z = with("a(b#9=99(c#8=88))");
        z.removeNode(0, 1);
        checks.due("8 nothing is left of removed nodes", "a(z)", () -> {
            z.addNode(0, 0, 0, 'z');
            return tree(z, 0);
        });
    }

    /** "A node has a label from 'a' to 'z'": of all characters these are accepted, and no others. */
    private static void labels() {
        String all = "abcdefghijklmnopqrstuvwxyz";
        checks.due("3 labels of a root", all, () -> accepted((x, label) -> read(x, 0, "" + label)));
        checks.due("3 labels of a child", all, () -> accepted((x, label) -> read(x, 0, "a(" + label + ")")));
        checks.due("8 labels", all, () -> accepted((x, label) -> x.addNode(0, 0, 0, label)));
        checks.due("10 labels", all, () -> accepted((x, label) -> x.setLabel(0, 0, label)));
    }

    private static String accepted(CharacterUse use) {
        StringBuilder accepted = new StringBuilder();
        for (int code = 0; code <= Character.MAX_VALUE; code++) {
            char character = (char) code;
            if (!Checks.answerOf(() -> use.on(new TreeDiffer(), character)).startsWith("throws.")) {
                accepted.append(character);
            }
        }
        return accepted.toString();
    }

    /** "A key from 0 to 9, where 0 means that it has no key. The root has no key." */
    private static void keys() {
        TreeDiffer x = with("a(b)");
        for (int key = 0; key <= 9; key++) {
            int number = key;
            checks.due("11 the previous key", Math.max(0, key - 1), () -> x.setKey(0, 1, number));
            checks.due("16 the key", number, () -> x.key(0, 1));
            checks.due("16 the root has none", 0, () -> x.key(0, 0));
        }
        checks.thrown("11 behind 9", ARGUMENT, () -> x.setKey(0, 1, 10));
        checks.due("11 from 9 to none", 9, () -> x.setKey(0, 1, 0));
        checks.due("11 none again", 0, () -> x.setKey(0, 1, 0));
        checks.thrown("11 before 0", ARGUMENT, () -> x.setKey(0, 1, -1));
        checks.due("5 no key is written", "a(b)", () -> tree(x, 0));
        checks.due("3 keys in a text", "123456789", () -> accepted((y, key) -> read(y, 0, "a(b#" + key + ")")));
        checks.due("3 no key of a root", "", () -> accepted((y, key) -> read(y, 0, "a#" + key)));
    }

    /** "Two children of the same node cannot have the same key, unless they have no keys." */
    private static void keysOfSiblings() {
        TreeDiffer x = with("a(bbbbbbbbbb)");
        for (int key = 1; key <= 9; key++) {
            int number = key;
            checks.due("11 nine siblings, nine keys", 0, () -> x.setKey(0, number, number));
        }
        for (int key = 1; key <= 9; key++) {
            int number = key;
            checks.thrown("11 none is left for the tenth", STATE, () -> x.setKey(0, 10, number));
            checks.due("11 its own key again", number, () -> x.setKey(0, number, number));
        }
        checks.due("11 no key for the tenth", 0, () -> x.setKey(0, 10, 0));
        checks.due("11 a key becomes free", 9, () -> x.setKey(0, 9, 0));
        checks.due("11 and is taken", 0, () -> x.setKey(0, 10, 9));
        checks.due("9 a sibling is removed", 10, () -> x.removeNode(0, 1));
        checks.due("11 its key is free", 0, () -> x.setKey(0, 8, 1));
        TreeDiffer y = with("a(b(cc)d)", "a(b)");
        checks.due("11 a node", 0, () -> y.setKey(0, 1, 5));
        checks.due("11 its child", 0, () -> y.setKey(0, 2, 5));
        checks.thrown("11 the child's sibling", STATE, () -> y.setKey(0, 3, 5));
        checks.thrown("11 the node's sibling", STATE, () -> y.setKey(0, 4, 5));
        checks.due("11 another tree's node", 0, () -> y.setKey(1, 1, 5));
        checks.due("3 nine keys and none", 12, () -> read(y, 2, "a(b#1b#2b#3b#4b#5b#6b#7b#8b#9bb)"));
        checks.due("3 19 without keys", 20, () -> read(y, 2, TWENTY));
    }

    /** "A value from 0 to 99." */
    private static void values() {
        TreeDiffer x = new TreeDiffer();
        for (int value = 0; value <= 99; value++) {
            int number = value;
            checks.due("12 the previous value", Math.max(0, value - 1), () -> x.setValue(0, 0, number));
            checks.due("17 the value", number, () -> x.value(0, 0));
            TreeDiffer y = with("a=" + value / 10 + value % 10, value <= 9 ? "a=" + value : "a");
            checks.due("3 two digits", number, () -> y.value(0, 0));
            checks.due("3 one digit", number <= 9 ? number : 0, () -> y.value(1, 0));
            checks.due("5 the value", value == 0 ? "a" : "a=" + value, () -> tree(y, 0));
        }
        checks.thrown("12 behind 99", ARGUMENT, () -> x.setValue(0, 0, 100));
        checks.due("12 from 99 to 0", 99, () -> x.setValue(0, 0, 0));
        checks.due("12 0 again", 0, () -> x.setValue(0, 0, 0));
        checks.thrown("12 before 0", ARGUMENT, () -> x.setValue(0, 0, -1));
    }

    /** "The numbers change when nodes are added or removed." */
    private static void numbersOfNodes() {
        TreeDiffer x = with("a(b(c)d(e))");
        checks.due("8 behind a subtree", 3, () -> x.addNode(0, 0, 1, 'x'));
        checks.due("19 the nodes behind it", 4, () -> x.parent(0, 5));
        checks.due("8 below the last node", 6, () -> x.addNode(0, 5, 0, 'y'));
        checks.due("8 before all", 1, () -> x.addNode(0, 0, 0, 'z'));
        checks.due("19 all nodes", 6, () -> x.parent(0, 7));
        checks.due("9 before all", 7, () -> x.removeNode(0, 1));
        checks.due("19 all nodes again", 5, () -> x.parent(0, 6));
        checks.due("9 a subtree before all", 5, () -> x.removeNode(0, 1));
        checks.due("19 by the size of the subtree", 3, () -> x.parent(0, 4));
        checks.due("19 but not the root", 0, () -> x.parent(0, 2));
        checks.due("5 what is left", "a(xd(e(y)))", () -> tree(x, 0));
    }

    /** "Initially, each tree has only a root with the label 'a' and the value 0." */
    private static void newObject() {
        for (int tree = 0; tree < 3; tree++) {
            int number = tree;
            int next = (tree + 1) % 3;
            TreeDiffer x = new TreeDiffer();
            checks.due("1 the text", "a", () -> tree(x, number));
            checks.due("1 the root's subtree", 1, () -> x.subtreeSize(number, 0));
            checks.due("1 the root's twin", 0, () -> x.twin(number, 0, next));
            checks.due("1 the root's twin in shape", 0, () -> x.shapeTwin(number, 0, next));
            checks.due("1 equal roots", true, () -> x.areEqual(number, 0, next, 0));
            checks.due("1 the distance", 0, () -> x.distance(number, next));
            checks.due("1 the distance by matchings", 0, () -> x.distanceByMatchings(number, next));
            checks.due("1 the similarity", 1.0, () -> x.similarity(number, next));
            checks.due("1 the script", 0, () -> x.diff(number, next));
            checks.due("1 the roots are a pair", 0, () -> x.partner(0));
            checks.due("1 the patch", 1, () -> x.patch(number));
            checks.due("1 the invariants", true, x::isConsistent);
        }
    }

    /** "The tree that is replaced, which may be the same." */
    private static void copies() {
        TreeDiffer x = with(TWENTY, "q", CHAIN);
        checks.due("13 20 nodes over one", 20, () -> x.copyTree(0, 1));
        checks.due("13 all of them", TWENTY, () -> tree(x, 1));
        checks.due("13 20 nodes over 20", 20, () -> x.copyTree(2, 1));
        checks.due("13 all of them", CHAIN, () -> tree(x, 1));
        checks.due("13 20 nodes over themselves", 20, () -> x.copyTree(2, 2));
        checks.due("13 nothing has changed", CHAIN, () -> tree(x, 2));
        TreeDiffer y = with(TWENTY, "q=5");
        checks.due("13 one node over 20", 1, () -> y.copyTree(1, 0));
        checks.due("13 only this one", "q=5", () -> tree(y, 0));
        checks.thrown("13 the others are gone", BOUNDS, () -> y.label(0, 1));
        checks.due("13 one node over itself", 1, () -> y.copyTree(1, 1));
        checks.due("13 the last tree over the first one", 1, () -> y.copyTree(2, 0));
        checks.due("13 a new tree", "a", () -> tree(y, 0));
    }

    // ---- equal subtrees

    private static void equalIs(boolean want, String first, String second) {
        TreeDiffer x = with(first, second);
        checks.due("22 " + first + " and " + second, want, () -> x.areEqual(0, 0, 1, 0));
        checks.due("22 " + second + " and " + first, want, () -> x.areEqual(1, 0, 0, 0));
        if (want) {
            checks.due("23 " + first + " in " + second, 0, () -> x.twin(0, 0, 1));
        } else {
            checks.thrown("23 " + first + " in " + second, ELEMENT, () -> x.twin(0, 0, 1));
        }
    }

    /** "The same labels, keys and values and the same number of children", and so on down to the last one. */
    private static void equalSubtrees() {
        equalIs(true, "a", "a=0");
        equalIs(true, CHAIN, CHAIN);
        equalIs(true, TWENTY, TWENTY);
        equalIs(false, "a", "b");
        equalIs(false, "a", "a=1");
        equalIs(false, "a=98", "a=99");
        equalIs(false, "a(b)", "a(b#1)");
        equalIs(false, "a(b#8)", "a(b#9)");
        equalIs(false, "a(b)", "a(bb)");
        equalIs(false, CHAIN, KEYED_CHAIN);
        equalIs(false, CHAIN, CHAIN.replace("t", "u"));
        equalIs(false, CHAIN, CHAIN.replace("t", "t=1"));
        equalIs(false, CHAIN, CHAIN.replace("t", "t#1"));
        equalIs(false, CHAIN, CHAIN.replace("(t)", ""));
        equalIs(false, TWENTY, NINETEEN);
        equalIs(false, TWENTY, "a(bbbbbbbbbbbbbbbbbbc)");
        equalIs(false, TWENTY, "a(bbbbbbbbbbbbbbbbbb(b))");
        TreeDiffer x = with("a(b(c)d)", "a(b(c))", "a(b(ce))");
        checks.due("22 what stands behind a subtree is none of it", true, () -> x.areEqual(0, 1, 1, 1));
        checks.due("22 one child more", false, () -> x.areEqual(1, 1, 2, 1));
        checks.due("23 the first subtree below the root", 1, () -> x.twin(0, 1, 1));
        checks.due("23 the last node", 3, () -> x.twin(0, 3, 0));
        TreeDiffer y = with(TWENTY, CHAIN);
        checks.due("23 the lowest-numbered of 19", 1, () -> y.twin(0, 19, 0));
        checks.due("23 the last of 20", 19, () -> y.twin(1, 19, 1));
        checks.thrown("23 none of 20", ELEMENT, () -> y.twin(1, 18, 0));
    }

    /** "The same shape if the same holds without regard to labels, keys and values." */
    private static void sameShapes() {
        TreeDiffer x = with("a(b#1=9(c)d)", "z=5(y(x)w#3)", "a(b(c)d(e))");
        checks.due("24 nothing else is the same", 0, () -> x.shapeTwin(0, 0, 1));
        checks.thrown("24 one child more below the last node", ELEMENT, () -> x.shapeTwin(0, 0, 2));
        checks.due("24 the lowest-numbered of two", 1, () -> x.shapeTwin(0, 1, 2));
        checks.due("24 the lowest-numbered leaf", 2, () -> x.shapeTwin(0, 3, 2));
        TreeDiffer y = with(TWENTY, "q(rrrrrrrrrrrrrrrrrrr)", CHAIN);
        checks.due("24 20 nodes", 0, () -> y.shapeTwin(0, 0, 1));
        checks.thrown("24 20 nodes of another shape", ELEMENT, () -> y.shapeTwin(0, 0, 2));
        checks.due("24 the last of 20", 19, () -> y.shapeTwin(0, 1, 2));
        checks.due("24 the last of 20 in the same tree", 19, () -> y.shapeTwin(2, 19, 2));
    }

    /** "Computed with ints that overflow"; here in longs of which only the last 32 bits are kept. */
    private static void overflowingHashes() {
        hashIs("a", 97L * 29791);
        hashIs("z=99", ((122L * 31 + 0) * 31 + 99) * 31);
        long chain = 't' * 29791L;
        for (char label = 's'; label >= 'a'; label--) {
            chain = (label * 29791L + chain) * 31 + 1 & 0xffffffffL;
        }
        hashIs(CHAIN, chain);
        long star = 'a' * 961L;
        for (int child = 0; child < 19; child++) {
            star = star * 31 + 'b' * 29791L & 0xffffffffL;
        }
        hashIs(TWENTY, star * 31 + 19);
        TreeDiffer x = with("a(z#9=99)");
        checks.due("21 the greatest hash of a leaf", ((122 * 31 + 9) * 31 + 99) * 31, () -> x.subtreeHash(0, 1));
        // Node 3 is the first one, from the leaf on, whose hash passes the greatest int.
        TreeDiffer y = with("a(a(a(a(a(a(a))))))");
        int[] hashes = {1640276351, 1851137731, 1857939711, -1051334845, 1348669567, 179163075, 2889727};
        for (int node = 0; node < hashes.length; node++) {
            int number = node;
            checks.due("21 node " + number, hashes[number], () -> y.subtreeHash(0, number));
        }
    }

    private static void hashIs(String text, long want) {
        checks.due("21 " + text, (int) want, () -> with(text).subtreeHash(0, 0));
    }

    // ---- matchings and distances

    private static void distanceIs(int want, String first, String second) {
        TreeDiffer x = with(first, second);
        checks.due("25 " + first + " to " + second, want, () -> x.distance(0, 1));
        checks.due("25 " + second + " to " + first, want, () -> x.distance(1, 0));
        if (x.size(0) <= 7 && x.size(1) <= 7) {
            checks.due("26 " + first + " to " + second, want, () -> x.distanceByMatchings(0, 1));
            checks.due("26 " + second + " to " + first, want, () -> x.distanceByMatchings(1, 0));
        }
    }

    private static void distances() {
        // "The roots are a pair", even if nothing of them is the same.
        distanceIs(4, "a", "z=99");
        distanceIs(4, "a(b#1)", "z=99(b#1)");
        // "Two nodes with the same key (or both without a key)".
        distanceIs(0, "a(b#9)", "a(b#9)");
        distanceIs(4, "a(b)", "a(b#9)");
        distanceIs(4, "a(b#8)", "a(b#9)");
        // "Whose parents are a pair".
        distanceIs(8, "a(b#1(c#3))", "a(b#2(c#3))");
        distanceIs(4, "a(b(c))", "a(bc)");
        // "No node belongs to two pairs".
        distanceIs(2, "a(b)", "a(bb)");
        distanceIs(36, "a(b)", TWENTY);
        // "The node that comes first among its siblings in the first tree comes first in the second tree, too".
        distanceIs(4, "a(b#1c#2)", "a(c#2b#1)");
        distanceIs(8, "a(b#1c#2d#3)", "a(d#3c#2b#1)");
        // "3 for each pair with different labels, 1 for each pair with different values, and 2 for each node".
        distanceIs(3, "a", "b");
        distanceIs(1, "a", "a=99");
        distanceIs(2, "a", "a(b)");
        distanceIs(4, "a(b)", "a(c=1)");
        distanceIs(7, "a(b(c))", "a(d(e=1))");
        distanceIs(8, "a(b(cd))", "a(e=1)");
        // From nothing that differs to nothing that is the same.
        distanceIs(0, CHAIN, CHAIN);
        distanceIs(0, TWENTY, TWENTY);
        distanceIs(38, "a", TWENTY);
        distanceIs(38, "a", CHAIN);
        distanceIs(76, TWENTY, KEYED_CHAIN);
        distanceIs(76, CHAIN, KEYED_CHAIN);
        distanceIs(80, "z=1" + TWENTY.substring(1), KEYED_CHAIN);
        TreeDiffer x = new TreeDiffer();
        fullOfChanges(x);
        checks.due("25 20 pairs with different labels and values", 80, () -> x.distance(0, 1));
        checks.due("25 the same tree", 0, () -> x.distance(1, 1));
    }

    /** "If one of the trees has more than 7 nodes": 7 nodes and one node are accepted. */
    private static void sevenNodes() {
        distanceIs(12, "a", "a(bcdefg)");
        distanceIs(12, "a(b(c(d(e(f(g))))))", "a");
        distanceIs(21, "a(b(c(d(e(f(g))))))", "b(c(d(e(f(g(h))))))");
        distanceIs(16, "a(bcdefg)", "a(gfedcb)");
        distanceIs(0, "a(bcdefg)", "a(bcdefg)");
        distanceIs(24, "a(b#4(c(d(e(f(g))))))", "a(b#1(c(d(e(f(g))))))");
        distanceIs(28, "a(b#1cccc#2c#3)", "z=1(b#5(xxxxx))");
        TreeDiffer x = with("a(bcdefg)", "a(bcdefg)");
        checks.due("26 7 nodes", 0, () -> x.distanceByMatchings(0, 1));
        x.addNode(1, 0, 6, 'h');
        checks.thrown("26 8 nodes", UNSUPPORTED, () -> x.distanceByMatchings(0, 1));
        checks.due("25 8 nodes", 2, () -> x.distance(0, 1));
        x.removeNode(1, 7);
        checks.due("26 7 nodes again", 0, () -> x.distanceByMatchings(0, 1));
    }

    private static void similarityIs(double want, String first, String second) {
        TreeDiffer x = with(first, second);
        checks.due("27 " + first + " and " + second, want, () -> x.similarity(0, 1));
        checks.due("27 " + second + " and " + first, want, () -> x.similarity(1, 0));
    }

    /** "1 minus the quotient of their distance and twice the number of nodes of both trees together." */
    private static void similarities() {
        similarityIs(1.0, "a", "a");
        similarityIs(1.0, TWENTY, TWENTY);
        similarityIs(0.0, "a", "z=1");
        similarityIs(0.0, "z=1" + TWENTY.substring(1), KEYED_CHAIN);
        similarityIs(0.25, "a", "b");
        similarityIs(0.75, "a", "a=99");
        similarityIs(1.0 - 2.0 / 6.0, "a", "a(b)");
        similarityIs(1.0 - 38.0 / 42.0, "a", TWENTY);
        similarityIs(1.0 - 1.0 / 80.0, TWENTY, "a=1" + TWENTY.substring(1));
        similarityIs(1.0 - 2.0 / 78.0, TWENTY, NINETEEN);
        TreeDiffer x = with(TWENTY);
        checks.due("27 the same tree", 1.0, () -> x.similarity(0, 0));
    }

    // ---- texts

    /** "The text buffer, which is initially empty", and "contains 80 characters". */
    private static void textBuffer() {
        TreeDiffer x = new TreeDiffer();
        checks.thrown("2 initially empty", ARGUMENT, () -> x.read(0));
        for (int length = 1; length <= 80; length++) {
            checks.due("2 the number of characters afterwards", length, () -> x.type('a'));
        }
        checks.thrown("2 no 81st", STATE, () -> x.type('a'));
        checks.thrown("3 a wrong text", ARGUMENT, () -> x.read(0));
        checks.due("3 the buffer is empty afterwards", 1, () -> x.type('q'));
        checks.due("3 nothing is left of the 80", 1, () -> x.read(0));
        checks.due("3 the buffer is empty again", 1, () -> x.type('r'));
        checks.due("3 nothing is left of the text before", 1, () -> x.read(0));
        checks.due("3 the latest text", "r", () -> tree(x, 0));
        TreeDiffer y = new TreeDiffer();
        type(y, "a=1(b=1" + "b=10".repeat(18));
        checks.due("2 the 80th", 80, () -> y.type(')'));
        checks.thrown("2 no 81st", STATE, () -> y.type(')'));
        checks.due("3 all 80 are a text", 20, () -> y.read(2));
        checks.due("3 the last one's value", 10, () -> y.value(2, 19));
        for (int code = 0; code <= Character.MAX_VALUE; code += 257) {
            char character = (char) code;
            checks.due("2 any character " + code, 1, () -> new TreeDiffer().type(character));
        }
    }

    private static void rightAs(String want, String text) {
        TreeDiffer x = new TreeDiffer();
        type(x, text);
        checks.due("3 " + text, true, () -> x.read(0) > 0);
        checks.due("3 and 5 " + text, want, () -> tree(x, 0));
    }

    private static void wrongAt(int position, String text) {
        TreeDiffer x = new TreeDiffer();
        checks.thrown("3 wrong: " + text, ARGUMENT, () -> read(x, 0, text));
        checks.due("4 where it is wrong: " + text, position, x::errorPosition);
    }

    /** "Braces mean zero or more repetitions and brackets mean an optional part": each of them with and without. */
    private static void grammar() {
        rightAs("a", "a");
        rightAs("a", "a=0");
        rightAs("a", "a=00");
        rightAs("a=7", "a=7");
        rightAs("a=7", "a=07");
        rightAs("a=70", "a=70");
        rightAs("a(b)", "a(b)");
        rightAs("a(bb)", "a(bb)");
        rightAs("a(b#1)", "a(b#1)");
        rightAs("a(b#1=2)", "a(b#1=2)");
        rightAs("a(b#1=2(c)d)", "a(b#1=02(c)d)");
        rightAs("a(b#9(c)d=99(e))", "a(b#9(c)d=99(e))");
        wrongAt(1, "a ");
        // No part may come twice, and none before an earlier one.
        wrongAt(5, "a(b#1#2)");
        wrongAt(5, "a(b=1#2)");
        wrongAt(3, "a=1=2");
        wrongAt(4, "a(b)=1");
        wrongAt(4, "a(b)#1");
        wrongAt(4, "a(b)(b)");
        // "digit [ digit ]": one and two, but not none and not three.
        wrongAt(2, "a=");
        wrongAt(2, "a=(b)");
        wrongAt(4, "a=000");
        wrongAt(4, "a=100");
        // "A key is a character from 1 to 9": only one.
        wrongAt(4, "a(b#)");
        wrongAt(4, "a(b#0)");
        wrongAt(5, "a(b#10)");
        // "( node { node } )": at least one.
        wrongAt(2, "a()");
        wrongAt(4, "a(b())");
        // Nothing stands behind the text of the root.
        wrongAt(4, "a(b))");
        wrongAt(1, "a)");
        wrongAt(1, "aa");
        wrongAt(60, KEYED_CHAIN + ")");
    }

    /** "At the # of a root, at a key that an earlier sibling has, and at the letter of a 21st node." */
    private static void additionalRules() {
        wrongAt(1, "a#1");
        wrongAt(1, "a#");
        wrongAt(1, "a#1(b)");
        wrongAt(7, "a(b#1b#1)");
        wrongAt(7, "a(b#9b#9");
        wrongAt(8, "a(b#1bb#1)");
        wrongAt(10, "a(b#1(c)b#1)");
        wrongAt(31, "a(b#1b#2b#3b#4b#5b#6b#7b#8b#9b#9)");
        wrongAt(31, "a(b#1b#2b#3b#4b#5b#6b#7b#8b#9b#1)");
        wrongAt(12, "a(b(c#1d#2c#1)d)");
        rightAs("a(b#1(b#1(b#1)))", "a(b#1(b#1(b#1)))");
        rightAs("a(b#1(c#2)d#2(c#1))", "a(b#1(c#2)d#2(c#1))");
        rightAs("a(b#1(c#2)c#2)", "a(b#1(c#2)c#2)");
        rightAs(TWENTY, TWENTY);
        wrongAt(21, "a(bbbbbbbbbbbbbbbbbbbb)");
        wrongAt(21, "a(bbbbbbbbbbbbbbbbbbbb#");
        wrongAt(23, "a(b(bbbbbbbbbbbbbbbbbb)b)");
        wrongAt(40, CHAIN.replace("t)", "t(u))"));
        wrongAt(40, CHAIN.replace("t)", "t)u)"));
        // The parenthesis behind a 20th node belongs to the grammar; only a letter behind it begins a 21st node.
        wrongAt(40, CHAIN.substring(0, 39) + "(");
        wrongAt(40, CHAIN.substring(0, 39) + "()");
        wrongAt(39, CHAIN.substring(0, 39));
        // The rule that the text breaks first, where it breaks several.
        wrongAt(1, "a#1(b#1b#1)");
        wrongAt(7, "a(b#1b#1)#");
        wrongAt(24, "a(b#1bbbbbbbbbbbbbbbbbb#1b)");
    }

    /** "A text is wrong at the first character at which no text of a tree can continue", at each place of a text. */
    private static void everyCharacterOfAText() {
        String text = "a=7(b#4=05(c=3d)b#5(e#4(f)))";
        rightAs("a=7(b#4=5(c=3d)b#5(e#4(f)))", text);
        for (int position = 0; position < text.length(); position++) {
            String before = text.substring(0, position);
            wrongAt(position, before + "?" + text.substring(position + 1));
            wrongAt(position, before + "?" + text.substring(position));
            wrongAt(position, before + (char) 65535);
            wrongAt(position, before + (char) (text.charAt(position) + 256) + text.substring(position + 1));
        }
        wrongAt(text.length(), text + "?");
    }

    /** "A text that is only the beginning of texts of trees is wrong at its length." */
    private static void beginningsOfTexts() {
        String text = "a=7(b#4=05(c=3d)b#5(e#4(f)))";
        for (int length = 0; length < text.length(); length++) {
            String beginning = text.substring(0, length);
            if (beginning.equals("a") || beginning.equals("a=7")) {
                rightAs(beginning, beginning);
            } else {
                wrongAt(length, beginning);
            }
        }
        wrongAt(21, TWENTY.substring(0, 21));
        wrongAt(57, CHAIN.substring(0, 57));
    }

    /** "When a tree is written, the value is left out if it is 0, and it is written without a leading zero." */
    private static void writtenTexts() {
        TreeDiffer x = with("a=01(b=10c=00(d#3=09)e#1)");
        checks.due("5 zeros", "a=1(b=10c(d#3=9)e#1)", () -> tree(x, 0));
        checks.due("5 its length", 20, () -> x.writeTree(0));
        checks.due("5 the shortest text", 1, () -> x.writeTree(2));
        for (String text : new String[] {"a", "z=99", TWENTY, CHAIN, KEYED_CHAIN, "a(b(c(d)e)f(g(h)))"}) {
            TreeDiffer y = with(text);
            checks.due("5 what was read is written", text, () -> tree(y, 0));
            checks.due("5 the number of characters", text.length(), () -> y.writeTree(0));
        }
        TreeDiffer z = with(CHAIN);
        for (int node = 0; node < 20; node++) {
            z.setValue(0, node, 99);
            if (node > 0) {
                z.setKey(0, node, 9);
            }
        }
        StringBuilder longest = new StringBuilder("a=99");
        for (char label = 'b'; label <= 't'; label++) {
            longest.append('(').append(label).append("#9=99");
        }
        longest.append(")".repeat(19));
        checks.due("5 the longest text", longest.toString(), () -> tree(z, 0));
        checks.due("5 its number of characters", 156, () -> z.writeTree(0));
    }

    /** "The output line, which is initially empty"; each call "replaces its old content". */
    private static void outputLine() {
        TreeDiffer x = with("a(b=10)", "q");
        checks.thrown("7 initially empty", BOUNDS, () -> x.charAt(0));
        checks.due("5 a line", 7, () -> x.writeTree(0));
        checks.due("7 the first", 'a', () -> x.charAt(0));
        checks.due("7 the last", ')', () -> x.charAt(6));
        checks.thrown("7 behind the last", BOUNDS, () -> x.charAt(7));
        checks.thrown("7 before the first", BOUNDS, () -> x.charAt(-1));
        checks.due("5 a shorter line", 1, () -> x.writeTree(1));
        checks.due("7 its only character", 'q', () -> x.charAt(0));
        checks.thrown("7 nothing is left of the longer one", BOUNDS, () -> x.charAt(1));
        x.diff(0, 0);
        checks.due("6 an empty script", 0, x::writeScript);
        checks.thrown("7 an empty line again", BOUNDS, () -> x.charAt(0));
        x.diff(1, 0);
        checks.due("6 a script", 4, x::writeScript);
        checks.due("6 its first character", 'l', () -> x.charAt(0));
        checks.due("6 its last character", '1', () -> x.charAt(3));
        checks.thrown("7 behind the script", BOUNDS, () -> x.charAt(4));
        x.diff(0, 0);
        x.copyTree(1, 0);
        checks.due("7 trees and scripts do not affect the line", 'i', () -> x.charAt(2));
        TreeDiffer y = new TreeDiffer();
        fullOfChanges(y);
        StringBuilder longest = new StringBuilder();
        for (int node = 0; node < 20; node++) {
            longest.append('l').append(node).append('v').append(node);
        }
        checks.due("6 the longest script", longest.toString(), () -> script(y));
        checks.due("6 its number of characters", 100, y::writeScript);
        checks.due("6 its last character", '9', () -> y.charAt(99));
        checks.thrown("7 behind the longest script", BOUNDS, () -> y.charAt(100));
    }

    /** "Returns true if the invariants hold": they do when all is empty and when all is full. */
    private static void consistency() {
        TreeDiffer x = new TreeDiffer();
        checks.due("40 a new object", true, x::isConsistent);
        x.diff(0, 0);
        x.writeScript();
        checks.due("40 an empty script and an empty line", true, x::isConsistent);
        read(x, 0, CHAIN);
        read(x, 1, TWENTY);
        read(x, 2, "a(b#1b#2b#3b#4b#5b#6b#7b#8b#9)");
        checks.due("40 full trees and all keys", true, x::isConsistent);
        x.diff(0, 1);
        x.diff(1, 2);
        x.diff(2, 0);
        checks.due("40 other scripts", true, x::isConsistent);
        type(x, "?".repeat(80));
        checks.due("40 a full buffer", true, x::isConsistent);
        checks.thrown("40 a wrong text", ARGUMENT, () -> x.read(1));
        checks.due("40 after a wrong text", true, x::isConsistent);
        x.removeNode(0, 1);
        x.removeNode(1, 19);
        checks.due("40 after removals", true, x::isConsistent);
        TreeDiffer y = new TreeDiffer();
        fullOfChanges(y);
        y.writeScript();
        checks.due("40 the longest script and its line", true, y::isConsistent);
        y.patch(0);
        checks.due("40 after a patch of 20 nodes", true, y::isConsistent);
    }
}
