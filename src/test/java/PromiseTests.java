/** For each promise of the document: ordinary inputs, the edges that it names, and wrong inputs. */
public final class PromiseTests extends DifferCalls {
    private static final Checks checks = new Checks("PromiseTests");

    public static void main(String[] args) {
        p01NewObject();
        p02Type();
        p03Read();
        p03ReadWrongTexts();
        p04ErrorPosition();
        p05WriteTree();
        p06WriteScript();
        p07CharAt();
        p08AddNode();
        p08AddNodeRefusals();
        p09RemoveNode();
        p10SetLabel();
        p11SetKey();
        p12SetValue();
        p13CopyTree();
        p14Size();
        p15Label();
        p16Key();
        p17Value();
        p18Children();
        p19Parent();
        p20SubtreeSize();
        p21SubtreeHash();
        p22AreEqual();
        p23Twin();
        p24ShapeTwin();
        p25Distance();
        p26DistanceByMatchings();
        p27Similarity();
        p28Diff();
        p28DiffIsCanonical();
        p28DiffRecognizesMoves();
        p29Operations();
        p30OpKind();
        p31OpNode();
        p32OpTarget();
        p33Partner();
        p34Moves();
        p35ScriptCost();
        p36GivesTarget();
        p37Patch();
        p37PatchPlaces();
        p37PatchConflictsChangeNothing();
        p38ConflictOperation();
        p39ConflictReason();
        p40IsConsistent();
        checks.close();
    }

    // ---- a new object

    private static void p01NewObject() {
        TreeDiffer x = new TreeDiffer();
        for (int number = 0; number < 3; number++) {
            int tree = number;
            checks.due("1 a new tree's size", 1, () -> x.size(tree));
            checks.due("1 a new root's label", 'a', () -> x.label(tree, 0));
            checks.due("1 a new root's key", 0, () -> x.key(tree, 0));
            checks.due("1 a new root's value", 0, () -> x.value(tree, 0));
            checks.due("1 a new root's children", 0, () -> x.children(tree, 0));
        }
        TreeDiffer y = new TreeDiffer();
        y.setLabel(0, 0, 'q');
        checks.due("1 objects share nothing", 'a', () -> x.label(0, 0));
        checks.thrown("1 no script", STATE, x::operations);
        checks.thrown("1 no conflict", ELEMENT, x::conflictOperation);
        checks.thrown("1 no wrong text", ELEMENT, x::errorPosition);
    }

    // ---- texts

    private static void p02Type() {
        TreeDiffer x = new TreeDiffer();
        checks.due("2 first character", 1, () -> x.type('a'));
        checks.due("2 any character", 2, () -> x.type((char) 0));
        checks.due("2 any character", 3, () -> x.type((char) 65535));
        for (int length = 4; length <= 80; length++) {
            checks.due("2 length", length, () -> x.type('('));
        }
        checks.thrown("2 an 81st character", STATE, () -> x.type('a'));
        checks.thrown("2 an 81st character again", STATE, () -> x.type('b'));
        checks.thrown("2 the long text is wrong", ARGUMENT, () -> x.read(0));
        checks.due("2 the refused character is not in the buffer", 1, () -> x.errorPosition());
        checks.due("2 the buffer is empty afterwards", 1, () -> x.type('a'));
        TreeDiffer y = new TreeDiffer();
        type(y, "a=1(b=1" + "b=10".repeat(18) + ")");
        checks.thrown("2 80 characters", STATE, () -> y.type(')'));
        checks.due("2 all 80 are read", 20, () -> y.read(0));
        type(y, "a=1(" + "b=10".repeat(19));
        checks.thrown("2 80 characters without an end", ARGUMENT, () -> y.read(0));
        checks.due("2 the end is missing behind all 80", 80, y::errorPosition);
    }

    private static void p03Read() {
        TreeDiffer x = new TreeDiffer();
        checks.due("3 a root", 1, () -> read(x, 0, "z"));
        checks.due("3 a root's label", 'z', () -> x.label(0, 0));
        checks.due("3 all parts", 7, () -> read(x, 2, "a=7(b#4=05(c=3d)b#5(e#4(f)))"));
        checks.due("3 all parts", "a=7(b#4=5(c=3d)b#5(e#4(f)))", () -> tree(x, 2));
        checks.due("3 the other trees stay", "a", () -> tree(x, 1));
        checks.due("3 20 nodes", 20, () -> read(x, 1, TWENTY));
        checks.due("3 a chain of 20 nodes", 20, () -> read(x, 1, CHAIN));
        checks.due("3 the chain's last node", 18, () -> x.parent(1, 19));
        checks.due("3 value 0 and 00", 3, () -> read(x, 1, "a=0(b=00c=99)"));
        checks.due("3 value 0 and 00", "a(bc=99)", () -> tree(x, 1));
        checks.due("3 a key of a cousin", 5, () -> read(x, 1, "a(b#1(c#1)d#9(c#1))"));
        type(x, "a(b)");
        for (int tree : NO_TREE) {
            checks.thrown("3 no such tree", BOUNDS, () -> x.read(tree));
        }
        checks.due("3 the buffer is not emptied then", 2, () -> x.read(0));
        type(x, "?");
        checks.thrown("3 no such tree, and a wrong text", BOUNDS, () -> x.read(3));
        checks.thrown("3 no such tree records no position", ELEMENT, x::errorPosition);
        checks.thrown("3 a wrong text", ARGUMENT, () -> x.read(0));
        checks.due("3 the tree stays", "a(b)", () -> tree(x, 0));
        checks.thrown("3 the buffer is empty after a wrong text", ARGUMENT, () -> x.read(0));
        checks.due("3 an empty text is wrong at 0", 0, x::errorPosition);
        read(x, 0, "a");
        checks.thrown("3 the buffer is empty after a right text", ARGUMENT, () -> x.read(0));
    }

    private static void wrongAt(String text, int position) {
        TreeDiffer x = with("q(r)", "q(r)", "q(r)");
        checks.thrown("3 wrong text " + text, ARGUMENT, () -> read(x, 1, text));
        checks.due("3 position in " + text, position, x::errorPosition);
        checks.due("3 tree after " + text, "q(r)", () -> tree(x, 1));
    }

    private static void p03ReadWrongTexts() {
        wrongAt("", 0);
        wrongAt("A", 0);
        wrongAt("`", 0);
        wrongAt("{", 0);
        wrongAt("(", 0);
        wrongAt("ab", 1);
        wrongAt("a)", 1);
        wrongAt("a#", 1);
        wrongAt("a#1", 1);
        wrongAt("a=", 2);
        wrongAt("a=x", 2);
        wrongAt("a=:", 2);
        wrongAt("a=/", 2);
        wrongAt("a=123", 4);
        wrongAt("a=1=2", 3);
        wrongAt("a=1#2", 3);
        wrongAt("a(", 2);
        wrongAt("a()", 2);
        wrongAt("a(b", 3);
        wrongAt("a(b)c", 4);
        wrongAt("a(b))", 4);
        wrongAt("a(b)(c)", 4);
        wrongAt("a(b(c)(d))", 6);
        wrongAt("a(b#", 4);
        wrongAt("a(b#0)", 4);
        wrongAt("a(b#:)", 4);
        wrongAt("a(b#12)", 5);
        wrongAt("a(b=1#2)", 5);
        wrongAt("a(b#1#2)", 5);
        wrongAt("a(b#1c#1)", 7);
        wrongAt("a(b#1(d)c#2e#1)", 13);
        wrongAt("a(b(c(d", 7);
        wrongAt("a(b(c(d))", 9);
        wrongAt("a b", 1);
        wrongAt("a" + (char) 0, 1);
        wrongAt("a(bbbbbbbbbbbbbbbbbbbb)", 21);
        wrongAt("a(bbbbbbbbbbbbbbbbbb(bb))", 22);
        wrongAt("a(bbbbbbbbbbbbbbbbbbb(", 22);
        wrongAt("a(bbbbbbbbbbbbbbbbbbb(b", 22);
        wrongAt("a(bbbbbbbbbbbbbbbbbbb#0b", 22);
        wrongAt("a(bbbbbbbbbbbbbbbbbbb))", 22);
    }

    private static void p04ErrorPosition() {
        TreeDiffer x = new TreeDiffer();
        checks.thrown("4 no wrong text", ELEMENT, x::errorPosition);
        read(x, 0, "a(b)");
        checks.thrown("4 no wrong text", ELEMENT, x::errorPosition);
        checks.thrown("4 a wrong text", ARGUMENT, () -> read(x, 0, "a(b"));
        checks.due("4 its position", 3, x::errorPosition);
        read(x, 0, "a");
        checks.due("4 a right text keeps it", 3, x::errorPosition);
        checks.thrown("4 no such tree", BOUNDS, () -> x.read(-1));
        checks.due("4 no such tree keeps it", 3, x::errorPosition);
        checks.thrown("4 a wrong text", ARGUMENT, () -> read(x, 1, "?"));
        checks.due("4 the latest position", 0, x::errorPosition);
    }

    private static void p05WriteTree() {
        TreeDiffer x = with("a=9(b#1=10(c)d(e(f)g)h#9=1)", "m");
        checks.due("5 length", 27, () -> x.writeTree(0));
        checks.due("5 text", "a=9(b#1=10(c)d(e(f)g)h#9=1)", () -> tree(x, 0));
        checks.due("5 the line is replaced", 1, () -> x.writeTree(1));
        checks.due("5 the line is replaced", 'm', () -> x.charAt(0));
        checks.thrown("5 the line is replaced", BOUNDS, () -> x.charAt(1));
        for (int tree : NO_TREE) {
            checks.thrown("5 no such tree", BOUNDS, () -> x.writeTree(tree));
        }
        checks.due("5 the line stays", 'm', () -> x.charAt(0));
        TreeDiffer y = new TreeDiffer();
        for (int node = 0; node < 20; node++) {
            if (node > 0) {
                y.addNode(0, node - 1, 0, 'b');
                y.setKey(0, node, 9);
            }
            y.setValue(0, node, 99);
        }
        checks.due("5 the longest text", 156, () -> y.writeTree(0));
        checks.due("5 the longest text's end", ')', () -> y.charAt(155));
        checks.thrown("5 behind the longest text", BOUNDS, () -> y.charAt(156));
    }

    private static void p06WriteScript() {
        TreeDiffer x = with("a(bbbbbbbbbbb)", "c=1(bbbbbbbbbbd)");
        checks.thrown("6 no script", STATE, x::writeScript);
        x.diff(0, 0);
        checks.due("6 an empty script", 0, x::writeScript);
        checks.thrown("6 an empty line", BOUNDS, () -> x.charAt(0));
        x.diff(0, 1);
        checks.due("6 its length", 7, x::writeScript);
        checks.due("6 numbers of two digits", "l0v0l11", () -> script(x));
        x.diff(1, 0);
        checks.due("6 the latest script", "l0v0l11", () -> script(x));
        checks.due("6 an insertion has the new number", "i1", () -> scriptOf("a", "a(b)"));
        checks.due("6 a deletion has the old number", "d2", () -> scriptOf("a(b#1b#2)", "a(b#1)"));
        checks.due("6 a move has the old number", "m3", () -> scriptOf("a(b#1(c)e#3)", "a(e#3b#1(c))"));
        checks.due("6 trees do not affect it", "l0v0l11", () -> {
            x.copyTree(2, 0);
            x.copyTree(2, 1);
            return script(x);
        });
    }

    private static void p07CharAt() {
        TreeDiffer x = with("a(b)");
        checks.thrown("7 an empty line", BOUNDS, () -> x.charAt(0));
        x.writeTree(0);
        checks.due("7 first", 'a', () -> x.charAt(0));
        checks.due("7 last", ')', () -> x.charAt(3));
        checks.thrown("7 behind the last", BOUNDS, () -> x.charAt(4));
        checks.thrown("7 negative", BOUNDS, () -> x.charAt(-1));
        checks.thrown("7 greatest", BOUNDS, () -> x.charAt(Integer.MAX_VALUE));
        checks.thrown("7 least", BOUNDS, () -> x.charAt(Integer.MIN_VALUE));
        x.setLabel(0, 0, 'z');
        checks.due("7 the line stays when the tree changes", 'a', () -> x.charAt(0));
    }

    // ---- trees

    private static void p08AddNode() {
        TreeDiffer x = new TreeDiffer();
        checks.due("8 a first child", 1, () -> x.addNode(0, 0, 0, 'b'));
        checks.due("8 a child behind it", 2, () -> x.addNode(0, 0, 1, 'd'));
        checks.due("8 a grandchild", 2, () -> x.addNode(0, 1, 0, 'e'));
        checks.due("8 a child between", 3, () -> x.addNode(0, 0, 1, 'c'));
        checks.due("8 a child before all", 1, () -> x.addNode(0, 0, 0, 'z'));
        checks.due("8 a child behind all", 6, () -> x.addNode(0, 0, 4, 'a'));
        checks.due("8 a grandchild behind", 4, () -> x.addNode(0, 2, 1, 'f'));
        checks.due("8 all", "a(zb(ef)cda)", () -> tree(x, 0));
        checks.due("8 the other trees stay", "a", () -> tree(x, 1));
        checks.due("8 no key", 0, () -> x.key(0, 4));
        checks.due("8 no value", 0, () -> x.value(0, 4));
        TreeDiffer y = with("a=5(b#3=7(c#2=8))");
        y.addNode(0, 0, 0, 'x');
        y.addNode(0, 2, 0, 'y');
        checks.due("8 the others keep what they have", "a=5(xb#3=7(yc#2=8))", () -> tree(y, 0));
    }

    private static void p08AddNodeRefusals() {
        TreeDiffer x = with("a(bc)", TWENTY);
        for (int number : NO_TREE) {
            checks.thrown("8 no such tree", BOUNDS, () -> x.addNode(number, 0, 0, 'b'));
            checks.thrown("8 no such parent", BOUNDS, () -> x.addNode(0, number, 0, 'b'));
            checks.thrown("8 no such position", BOUNDS, () -> x.addNode(0, 0, number, 'b'));
        }
        checks.thrown("8 no such position in a leaf", BOUNDS, () -> x.addNode(0, 1, 1, 'b'));
        checks.thrown("8 below 'a'", ARGUMENT, () -> x.addNode(0, 0, 0, '`'));
        checks.thrown("8 above 'z'", ARGUMENT, () -> x.addNode(0, 0, 0, '{'));
        checks.thrown("8 a capital", ARGUMENT, () -> x.addNode(0, 0, 0, 'B'));
        checks.thrown("8 full", STATE, () -> x.addNode(1, 0, 0, 'b'));
        checks.thrown("8 bounds before label", BOUNDS, () -> x.addNode(1, 0, 20, 'B'));
        checks.thrown("8 label before full", ARGUMENT, () -> x.addNode(1, 0, 19, 'B'));
        checks.due("8 nothing has changed", "a(bc)", () -> tree(x, 0));
        checks.due("8 nothing has changed", TWENTY, () -> tree(x, 1));
        x.removeNode(1, 19);
        checks.due("8 a 20th node", 19, () -> x.addNode(1, 18, 0, 'z'));
    }

    private static void p09RemoveNode() {
        TreeDiffer x = with("a(b#1=3(c(d)e)f#2(g)h=9)");
        checks.due("9 a subtree inside", 6, () -> x.removeNode(0, 2));
        checks.due("9 a subtree inside", "a(b#1=3(e)f#2(g)h=9)", () -> tree(x, 0));
        checks.due("9 a subtree", 4, () -> x.removeNode(0, 1));
        checks.due("9 a subtree", "a(f#2(g)h=9)", () -> tree(x, 0));
        checks.due("9 a leaf at the end", 3, () -> x.removeNode(0, 3));
        checks.thrown("9 no such node any more", BOUNDS, () -> x.removeNode(0, 3));
        checks.thrown("9 the root", UNSUPPORTED, () -> x.removeNode(0, 0));
        checks.thrown("9 the root of a root", UNSUPPORTED, () -> x.removeNode(1, 0));
        for (int number : NO_TREE) {
            checks.thrown("9 no such tree", BOUNDS, () -> x.removeNode(number, 0));
            checks.thrown("9 no such node", BOUNDS, () -> x.removeNode(1, number));
        }
        checks.due("9 nothing has changed", "a(f#2(g))", () -> tree(x, 0));
    }

    private static void p10SetLabel() {
        TreeDiffer x = with("a(bab)");
        checks.due("10 as many as have it", 3, () -> x.setLabel(0, 0, 'b'));
        checks.due("10 a new one", 1, () -> x.setLabel(0, 3, 'z'));
        checks.due("10 the same again", 1, () -> x.setLabel(0, 3, 'z'));
        checks.due("10 'a'", 2, () -> x.setLabel(0, 1, 'a'));
        checks.due("10 all", "b(aaz)", () -> tree(x, 0));
        checks.thrown("10 below 'a'", ARGUMENT, () -> x.setLabel(0, 0, '`'));
        checks.thrown("10 above 'z'", ARGUMENT, () -> x.setLabel(0, 0, '{'));
        checks.thrown("10 bounds before label", BOUNDS, () -> x.setLabel(0, 4, '{'));
        for (int number : NO_TREE) {
            checks.thrown("10 no such tree", BOUNDS, () -> x.setLabel(number, 0, 'a'));
            checks.thrown("10 no such node", BOUNDS, () -> x.setLabel(1, number, 'a'));
        }
        checks.due("10 nothing has changed", "b(aaz)", () -> tree(x, 0));
    }

    private static void p11SetKey() {
        TreeDiffer x = with("a(b(d)c)");
        checks.due("11 a key", 0, () -> x.setKey(0, 1, 9));
        checks.due("11 another one", 9, () -> x.setKey(0, 1, 1));
        checks.due("11 its own again", 1, () -> x.setKey(0, 1, 1));
        checks.due("11 a child may have it", 0, () -> x.setKey(0, 2, 1));
        checks.thrown("11 a sibling has it", STATE, () -> x.setKey(0, 3, 1));
        checks.due("11 a sibling's other key", 0, () -> x.setKey(0, 3, 2));
        checks.thrown("11 a later sibling has it", STATE, () -> x.setKey(0, 1, 2));
        checks.due("11 no key", 1, () -> x.setKey(0, 1, 0));
        checks.due("11 no keys at all", 2, () -> x.setKey(0, 3, 0));
        checks.due("11 all", "a(b(d#1)c)", () -> tree(x, 0));
        checks.thrown("11 above 9", ARGUMENT, () -> x.setKey(0, 1, 10));
        checks.thrown("11 below 0", ARGUMENT, () -> x.setKey(0, 1, -1));
        checks.thrown("11 the root", UNSUPPORTED, () -> x.setKey(0, 0, 1));
        checks.thrown("11 the root, no key", UNSUPPORTED, () -> x.setKey(0, 0, 0));
        checks.thrown("11 range before root", ARGUMENT, () -> x.setKey(0, 0, 10));
        checks.thrown("11 bounds before range", BOUNDS, () -> x.setKey(0, 4, 10));
        for (int number : NO_TREE) {
            checks.thrown("11 no such tree", BOUNDS, () -> x.setKey(number, 0, 1));
            checks.thrown("11 no such node", BOUNDS, () -> x.setKey(1, number, 1));
        }
        checks.due("11 nothing has changed", "a(b(d#1)c)", () -> tree(x, 0));
    }

    private static void p12SetValue() {
        TreeDiffer x = with("a(b=5)");
        checks.due("12 the root", 0, () -> x.setValue(0, 0, 99));
        checks.due("12 the previous value", 99, () -> x.setValue(0, 0, 1));
        checks.due("12 0", 5, () -> x.setValue(0, 1, 0));
        checks.due("12 all", "a=1(b)", () -> tree(x, 0));
        checks.thrown("12 above 99", ARGUMENT, () -> x.setValue(0, 0, 100));
        checks.thrown("12 below 0", ARGUMENT, () -> x.setValue(0, 0, -1));
        checks.thrown("12 bounds before range", BOUNDS, () -> x.setValue(0, 2, 100));
        for (int number : NO_TREE) {
            checks.thrown("12 no such tree", BOUNDS, () -> x.setValue(number, 0, 1));
            checks.thrown("12 no such node", BOUNDS, () -> x.setValue(1, number, 1));
        }
        checks.due("12 nothing has changed", "a=1(b)", () -> tree(x, 0));
    }

    private static void p13CopyTree() {
        TreeDiffer x = with("a=1(b#2(c)d=3)", "z(zzzzzz)");
        checks.due("13 a copy", 4, () -> x.copyTree(0, 1));
        checks.due("13 a copy", "a=1(b#2(c)d=3)", () -> tree(x, 1));
        x.setLabel(1, 3, 'q');
        x.removeNode(1, 1);
        checks.due("13 the copied one stays", "a=1(b#2(c)d=3)", () -> tree(x, 0));
        checks.due("13 the same", 4, () -> x.copyTree(0, 0));
        checks.due("13 the same", "a=1(b#2(c)d=3)", () -> tree(x, 0));
        for (int number : NO_TREE) {
            checks.thrown("13 no such tree", BOUNDS, () -> x.copyTree(number, 2));
            checks.thrown("13 no such tree", BOUNDS, () -> x.copyTree(0, number));
        }
        checks.due("13 nothing has changed", "a", () -> tree(x, 2));
    }

    private static void p14Size() {
        TreeDiffer x = with("a(b(c)d)", TWENTY);
        checks.due("14 size", 4, () -> x.size(0));
        checks.due("14 20", 20, () -> x.size(1));
        checks.due("14 1", 1, () -> x.size(2));
        for (int number : NO_TREE) {
            checks.thrown("14 no such tree", BOUNDS, () -> x.size(number));
        }
    }

    private static void p15Label() {
        TreeDiffer x = with("m(z(q)b)");
        checks.due("15 root", 'm', () -> x.label(0, 0));
        checks.due("15 inside", 'q', () -> x.label(0, 2));
        checks.due("15 last", 'b', () -> x.label(0, 3));
        checks.thrown("15 behind the last", BOUNDS, () -> x.label(0, 4));
        for (int number : NO_TREE) {
            checks.thrown("15 no such tree", BOUNDS, () -> x.label(number, 0));
            checks.thrown("15 no such node", BOUNDS, () -> x.label(2, number));
        }
    }

    private static void p16Key() {
        TreeDiffer x = with("m(z#9(q#1)b)");
        checks.due("16 root", 0, () -> x.key(0, 0));
        checks.due("16 9", 9, () -> x.key(0, 1));
        checks.due("16 1", 1, () -> x.key(0, 2));
        checks.due("16 none", 0, () -> x.key(0, 3));
        checks.thrown("16 behind the last", BOUNDS, () -> x.key(0, 4));
        for (int number : NO_TREE) {
            checks.thrown("16 no such tree", BOUNDS, () -> x.key(number, 0));
            checks.thrown("16 no such node", BOUNDS, () -> x.key(2, number));
        }
    }

    private static void p17Value() {
        TreeDiffer x = with("m=99(z=9(q=10)b)");
        checks.due("17 root", 99, () -> x.value(0, 0));
        checks.due("17 one digit", 9, () -> x.value(0, 1));
        checks.due("17 two digits", 10, () -> x.value(0, 2));
        checks.due("17 none", 0, () -> x.value(0, 3));
        checks.thrown("17 behind the last", BOUNDS, () -> x.value(0, 4));
        for (int number : NO_TREE) {
            checks.thrown("17 no such tree", BOUNDS, () -> x.value(number, 0));
            checks.thrown("17 no such node", BOUNDS, () -> x.value(2, number));
        }
    }

    private static void p18Children() {
        TreeDiffer x = with("a(b(cd(e))f)", TWENTY);
        checks.due("18 root", 2, () -> x.children(0, 0));
        checks.due("18 inside", 2, () -> x.children(0, 1));
        checks.due("18 one", 1, () -> x.children(0, 3));
        checks.due("18 a leaf", 0, () -> x.children(0, 2));
        checks.due("18 the last", 0, () -> x.children(0, 5));
        checks.due("18 19", 19, () -> x.children(1, 0));
        checks.thrown("18 behind the last", BOUNDS, () -> x.children(0, 6));
        for (int number : NO_TREE) {
            checks.thrown("18 no such tree", BOUNDS, () -> x.children(number, 0));
            checks.thrown("18 no such node", BOUNDS, () -> x.children(2, number));
        }
    }

    private static void p19Parent() {
        TreeDiffer x = with("a(b(cd(e))f)");
        checks.due("19 a child of the root", 0, () -> x.parent(0, 1));
        checks.due("19 a first child", 1, () -> x.parent(0, 2));
        checks.due("19 a second child", 1, () -> x.parent(0, 3));
        checks.due("19 deep", 3, () -> x.parent(0, 4));
        checks.due("19 behind the deep one", 0, () -> x.parent(0, 5));
        checks.thrown("19 the root", ELEMENT, () -> x.parent(0, 0));
        checks.thrown("19 behind the last", BOUNDS, () -> x.parent(0, 6));
        for (int number : NO_TREE) {
            checks.thrown("19 no such tree", BOUNDS, () -> x.parent(number, 0));
            checks.thrown("19 no such node", BOUNDS, () -> x.parent(2, number));
        }
    }

    private static void p20SubtreeSize() {
        TreeDiffer x = with("a(b(cd(e))f)");
        checks.due("20 the root", 6, () -> x.subtreeSize(0, 0));
        checks.due("20 inside", 4, () -> x.subtreeSize(0, 1));
        checks.due("20 a leaf", 1, () -> x.subtreeSize(0, 2));
        checks.due("20 deep", 2, () -> x.subtreeSize(0, 3));
        checks.due("20 the last", 1, () -> x.subtreeSize(0, 5));
        checks.thrown("20 behind the last", BOUNDS, () -> x.subtreeSize(0, 6));
        for (int number : NO_TREE) {
            checks.thrown("20 no such tree", BOUNDS, () -> x.subtreeSize(number, 0));
            checks.thrown("20 no such node", BOUNDS, () -> x.subtreeSize(2, number));
        }
    }

    private static void p21SubtreeHash() {
        TreeDiffer x = with("a(b#2=3(c)d)", "a(b(c(d(e(f(g(h)))))))");
        int c = 'c' * 31 * 31 * 31;
        int b = (((('b' * 31 + 2) * 31 + 3) * 31) + c) * 31 + 1;
        int d = 'd' * 31 * 31 * 31;
        int a = ((('a' * 31 * 31) * 31 + b) * 31 + d) * 31 + 2;
        checks.due("21 a leaf", c, () -> x.subtreeHash(0, 2));
        checks.due("21 key, value and child", b, () -> x.subtreeHash(0, 1));
        checks.due("21 two children", a, () -> x.subtreeHash(0, 0));
        int chain = 'h' * 31 * 31 * 31;
        for (char label = 'g'; label >= 'a'; label--) {
            chain = (label * 31 * 31 * 31 + chain) * 31 + 1;
        }
        int overflown = chain;
        checks.due("21 with overflow", overflown, () -> x.subtreeHash(1, 0));
        checks.thrown("21 behind the last", BOUNDS, () -> x.subtreeHash(0, 4));
        for (int number : NO_TREE) {
            checks.thrown("21 no such tree", BOUNDS, () -> x.subtreeHash(number, 0));
            checks.thrown("21 no such node", BOUNDS, () -> x.subtreeHash(2, number));
        }
    }

    /** Whether the first children of two roots are equal. */
    private static void equalIs(boolean want, String first, String second) {
        TreeDiffer x = with(first, second);
        checks.due("22 " + first + " " + second, want, () -> x.areEqual(0, 1, 1, 1));
        checks.due("22 " + second + " " + first, want, () -> x.areEqual(1, 1, 0, 1));
    }

    private static void p22AreEqual() {
        equalIs(true, "a(b#1=2(c#1d))", "z=9(b#1=2(c#1d)f)");
        equalIs(false, "a(b)", "a(c)");
        equalIs(false, "a(b#1)", "a(b#2)");
        equalIs(false, "a(b#1)", "a(b)");
        equalIs(false, "a(b=1)", "a(b=2)");
        equalIs(false, "a(b(c))", "a(b)");
        equalIs(false, "a(b(cd))", "a(b(dc))");
        equalIs(false, "a(b(cd))", "a(b(c(d)))");
        equalIs(false, "a(b(c(d)e))", "a(b(cd(e)))");
        equalIs(false, "a(b(c(d=1)))", "a(b(c(d=2)))");
        equalIs(false, "a(b(c(d#1)))", "a(b(c(d#2)))");
        equalIs(false, "a(b(c(d)))", "a(b(c(e)))");
        TreeDiffer x = with("a(b(c)b(c)a)", "a(b)");
        checks.due("22 in the same tree", true, () -> x.areEqual(0, 1, 0, 3));
        checks.due("22 itself", true, () -> x.areEqual(0, 0, 0, 0));
        checks.due("22 a root and a leaf", true, () -> x.areEqual(2, 0, 0, 5));
        checks.thrown("22 behind the last", BOUNDS, () -> x.areEqual(0, 6, 1, 0));
        checks.thrown("22 behind the last", BOUNDS, () -> x.areEqual(0, 0, 1, 2));
        for (int number : NO_TREE) {
            checks.thrown("22 no such tree", BOUNDS, () -> x.areEqual(number, 0, 0, 0));
            checks.thrown("22 no such node", BOUNDS, () -> x.areEqual(2, number, 0, 0));
            checks.thrown("22 no such other tree", BOUNDS, () -> x.areEqual(0, 0, number, 0));
            checks.thrown("22 no such other node", BOUNDS, () -> x.areEqual(0, 0, 2, number));
        }
    }

    private static void p23Twin() {
        TreeDiffer x = with("a(b(c)d#1c)", "b(b(d)b(c)b(c)d#2)");
        checks.due("23 the lowest one", 3, () -> x.twin(0, 1, 1));
        checks.due("23 itself", 0, () -> x.twin(0, 0, 0));
        checks.due("23 a lower one in the same tree", 2, () -> x.twin(0, 4, 0));
        checks.thrown("23 another key", ELEMENT, () -> x.twin(0, 3, 1));
        checks.thrown("23 none", ELEMENT, () -> x.twin(0, 0, 1));
        checks.thrown("23 behind the last", BOUNDS, () -> x.twin(0, 5, 1));
        for (int number : NO_TREE) {
            checks.thrown("23 no such tree", BOUNDS, () -> x.twin(number, 0, 0));
            checks.thrown("23 no such node", BOUNDS, () -> x.twin(2, number, 0));
            checks.thrown("23 no such other tree", BOUNDS, () -> x.twin(0, 0, number));
        }
        TreeDiffer y = with("a(z)", TWENTY, "a(z)");
        checks.thrown("23 none among 20", ELEMENT, () -> y.twin(0, 1, 1));
        y.removeNode(2, 1);
        checks.thrown("23 a removed one is not found", ELEMENT, () -> y.twin(0, 1, 2));
    }

    private static void p24ShapeTwin() {
        TreeDiffer x = with("a(b(c)d#1)", "z=3(y#1x#4=9(w=2)v)");
        checks.due("24 without regard to labels, keys and values", 2, () -> x.shapeTwin(0, 1, 1));
        checks.due("24 the lowest leaf", 1, () -> x.shapeTwin(0, 3, 1));
        checks.due("24 itself", 0, () -> x.shapeTwin(0, 0, 0));
        checks.due("24 a lower one in the same tree", 2, () -> x.shapeTwin(0, 3, 0));
        checks.thrown("24 none", ELEMENT, () -> x.shapeTwin(0, 0, 1));
        TreeDiffer y = with("a(b(cd)e)", "a(b(c(d))e)", "a(bc(de))");
        checks.thrown("24 the same size, another shape", ELEMENT, () -> y.shapeTwin(0, 0, 1));
        checks.thrown("24 the children the other way round", ELEMENT, () -> y.shapeTwin(0, 0, 2));
        checks.thrown("24 behind the last", BOUNDS, () -> x.shapeTwin(0, 4, 1));
        for (int number : NO_TREE) {
            checks.thrown("24 no such tree", BOUNDS, () -> x.shapeTwin(number, 0, 0));
            checks.thrown("24 no such node", BOUNDS, () -> x.shapeTwin(2, number, 0));
            checks.thrown("24 no such other tree", BOUNDS, () -> x.shapeTwin(0, 0, number));
        }
        TreeDiffer z = with("a(b(c))", TWENTY, "a(b(c(d)))");
        checks.thrown("24 none among 20", ELEMENT, () -> z.shapeTwin(0, 0, 1));
        z.removeNode(2, 2);
        checks.thrown("24 a removed one is not found", ELEMENT, () -> z.shapeTwin(0, 0, 2));
    }

    // ---- distances and scripts

    private static void distanceIs(int want, String first, String second) {
        TreeDiffer x = with(first, second);
        checks.due("25 " + first + " " + second, want, () -> x.distance(0, 1));
        checks.due("25 " + second + " " + first, want, () -> x.distance(1, 0));
        if (x.size(0) <= 7 && x.size(1) <= 7) {
            checks.due("26 " + first + " " + second, want, () -> x.distanceByMatchings(0, 1));
            checks.due("26 " + second + " " + first, want, () -> x.distanceByMatchings(1, 0));
        }
    }

    private static void p25Distance() {
        distanceIs(0, "a", "a");
        distanceIs(3, "a", "b");
        distanceIs(1, "a", "a=1");
        distanceIs(4, "a", "b=1");
        distanceIs(2, "a", "a(b)");
        distanceIs(6, "a", "a(b(cd))");
        distanceIs(3, "a(b)", "a(c)");
        distanceIs(4, "a(b)", "a(c=1)");
        distanceIs(4, "a(b#1)", "a(b#2)");
        distanceIs(4, "a(b#1)", "a(b)");
        distanceIs(0, "a(b#1)", "a(b#1)");
        distanceIs(4, "a(bc)", "a(cb)");
        distanceIs(2, "a(bcd)", "a(bd)");
        distanceIs(2, "a(bcd)", "a(cd)");
        distanceIs(8, "a(b#1c#2(d))", "a(c#2(d)b#1(ee))");
        distanceIs(7, "a(b(c))", "a(b(d(e))f)");
        distanceIs(4, "a(b#1(d))", "a(b#1d)");
        TreeDiffer x = with(TWENTY, "a");
        checks.due("25 20 nodes", 38, () -> x.distance(0, 1));
        checks.due("25 the same tree", 0, () -> x.distance(0, 0));
        for (int number : NO_TREE) {
            checks.thrown("25 no such tree", BOUNDS, () -> x.distance(number, 0));
            checks.thrown("25 no such tree", BOUNDS, () -> x.distance(0, number));
        }
    }

    private static void p26DistanceByMatchings() {
        TreeDiffer x = with("a(bcdefg)", "a(bcdefgh)", "a(gfedcb)");
        checks.due("26 7 nodes", 16, () -> x.distanceByMatchings(0, 2));
        checks.due("26 the same tree", 0, () -> x.distanceByMatchings(0, 0));
        checks.thrown("26 8 nodes", UNSUPPORTED, () -> x.distanceByMatchings(1, 0));
        checks.thrown("26 8 nodes", UNSUPPORTED, () -> x.distanceByMatchings(0, 1));
        checks.thrown("26 8 nodes twice", UNSUPPORTED, () -> x.distanceByMatchings(1, 1));
        for (int number : NO_TREE) {
            checks.thrown("26 no such tree", BOUNDS, () -> x.distanceByMatchings(number, 0));
            checks.thrown("26 no such tree", BOUNDS, () -> x.distanceByMatchings(0, number));
            checks.thrown("26 bounds before size", BOUNDS, () -> x.distanceByMatchings(1, number));
        }
    }

    private static void p27Similarity() {
        TreeDiffer x = with("a(bc)", "a(b(d))", "z=1");
        checks.due("27 the same", 1.0, () -> x.similarity(0, 0));
        checks.due("27 two nodes of six", 1.0 - 4.0 / 12.0, () -> x.similarity(0, 1));
        checks.due("27 another root", 1.0 - 8.0 / 8.0, () -> x.similarity(0, 2));
        TreeDiffer y = with("a", "z=1", "b(a(aaa)a)");
        checks.due("27 roots", 0.0, () -> y.similarity(0, 1));
        checks.due("27 thirds", 1.0 - 13.0 / 14.0, () -> y.similarity(0, 2));
        for (int number : NO_TREE) {
            checks.thrown("27 no such tree", BOUNDS, () -> x.similarity(number, 0));
            checks.thrown("27 no such tree", BOUNDS, () -> x.similarity(0, number));
        }
    }

    private static void p28Diff() {
        TreeDiffer x = with("a(b#1c#2)", "z=1(b#1d#2)");
        checks.due("28 three operations", 3, () -> x.diff(0, 1));
        checks.due("28 label before value, parents first", "l0v0l2", () -> script(x));
        checks.due("28 the same tree", 0, () -> x.diff(0, 0));
        checks.due("28 the latest script", 0, x::operations);
        x.diff(0, 1);
        for (int number : NO_TREE) {
            checks.thrown("28 no such tree", BOUNDS, () -> x.diff(number, 0));
            checks.thrown("28 no such tree", BOUNDS, () -> x.diff(0, number));
        }
        checks.due("28 the latest script stays", "l0v0l2", () -> script(x));
        checks.due("28 whole subtrees", "d1i1", () -> scriptOf("a(b#1(cd))", "a(e#2(fg))"));
        checks.due("28 left over on the first side", "l1d2d3", () -> scriptOf("a(bcd)", "a(e)"));
        checks.due("28 left over on the second side", "l1i2i3", () -> scriptOf("a(e)", "a(bcd)"));
        checks.due("28 the operations of a pair stand at its place", "d1v2d3i2d4i3",
                () -> scriptOf("a(b#1c#2(d#1)e#3)", "a(c#2=1(d#2)f#4)"));
        TreeDiffer y = new TreeDiffer();
        checks.due("28 as many operations as can be", 40, () -> fullOfChanges(y));
        checks.due("28 as many operations as can be", 100, y::writeScript);
    }

    private static void p28DiffIsCanonical() {
        checks.due("28 the first ones are a pair", "d2", () -> scriptOf("a(bb)", "a(b)"));
        checks.due("28 the first ones are a pair", "i2", () -> scriptOf("a(b)", "a(bb)"));
        checks.due("28 the first ones are pairs", "d3", () -> scriptOf("a(bbb)", "a(bb)"));
        checks.due("28 no pair that costs too much", "d1d3", () -> scriptOf("a(cbb)", "a(b)"));
        checks.due("28 a pair comes before leaving one out", "l1d2", () -> scriptOf("a(bb)", "a(c)"));
        checks.due("28 a pair comes before leaving two out", "l1v1", () -> scriptOf("a(b)", "a(c=1)"));
        checks.due("28 the first tree's child is left out first", "d1i1", () -> scriptOf("a(b#1)", "a(c#2)"));
        checks.due("28 the first tree's child is left out if both can be", "m1", () -> scriptOf("a(bc)", "a(cb)"));
        checks.due("28 the same with keys", "m1", () -> scriptOf("a(b#1c#2)", "a(c#2b#1)"));
        checks.due("28 otherwise the second tree's", "i1", () -> scriptOf("a(c)", "a(bc)"));
        checks.due("28 otherwise the second tree's", "i2", () -> scriptOf("a(bc)", "a(bdc)"));
        checks.due("28 otherwise the second tree's", "i1d3", () -> scriptOf("a(b#1(x)c#2)", "a(d#3b#1(x))"));
    }

    private static void p28DiffRecognizesMoves() {
        checks.due("28 a move stands where the insertion was", "v2m1v4",
                () -> scriptOf("a(b#1c#2(x)d#3)", "a(c#2=1(x)b#1d#3=1)"));
        checks.due("28 an insertion before the deletion", "m3", () -> scriptOf("a(b#1(x)c#2)", "a(c#2b#1(x))"));
        checks.due("28 from below one to below another one", "m3", () -> scriptOf("a(b#1c#2(m))", "a(b#1(m)c#2)"));
        checks.due("28 the first insertion", "m2i5",
                () -> scriptOf("a(b#1(m#9)c#2d#3)", "a(b#1c#2(m#9)d#3(m#9))"));
        checks.due("28 the first deletion", "d4m2", () -> scriptOf("a(b#1(m#9)c#2(m#9)d#3)", "a(b#1c#2d#3(m#9))"));
        checks.due("28 two moves", "m2m4",
                () -> scriptOf("a(b#1(m#9)c#2(m#9)d#3e#4)", "a(b#1c#2d#3(m#9)e#4(m#9))"));
        checks.due("28 another label is no move", "d2i3", () -> scriptOf("a(b#1(m)c#2)", "a(b#1c#2(n))"));
        checks.due("28 another key is no move", "d2i3", () -> scriptOf("a(b#1(m#8)c#2)", "a(b#1c#2(m#9))"));
        checks.due("28 another value is no move", "d2i3", () -> scriptOf("a(b#1(m=8)c#2)", "a(b#1c#2(m=9))"));
        checks.due("28 a part of a deletion is no move", "d1i2", () -> scriptOf("a(b#1(m)c#2)", "a(c#2(m))"));
    }

    private static void p29Operations() {
        TreeDiffer x = new TreeDiffer();
        checks.thrown("29 no script", STATE, x::operations);
        checks.thrown("29 a diff of no tree", BOUNDS, () -> x.diff(0, 3));
        checks.thrown("29 still no script", STATE, x::operations);
        x.diff(0, 1);
        checks.due("29 an empty script", 0, x::operations);
        TreeDiffer y = allKinds();
        checks.due("29 all kinds", 7, y::operations);
        y.copyTree(1, 0);
        checks.due("29 trees do not affect it", 7, y::operations);
    }

    private static void p30OpKind() {
        TreeDiffer x = new TreeDiffer();
        checks.thrown("30 no script", STATE, () -> x.opKind(0));
        checks.thrown("30 no script before no operation", STATE, () -> x.opKind(-1));
        TreeDiffer y = allKinds();
        char[] kinds = {'v', 'i', 'l', 'v', 'm', 'd', 'i'};
        for (int operation = 0; operation < kinds.length; operation++) {
            int number = operation;
            checks.due("30 kind of " + number, kinds[number], () -> y.opKind(number));
        }
        checks.thrown("30 negative", BOUNDS, () -> y.opKind(-1));
        checks.thrown("30 behind the last", BOUNDS, () -> y.opKind(7));
        checks.thrown("30 greatest", BOUNDS, () -> y.opKind(Integer.MAX_VALUE));
        checks.thrown("30 least", BOUNDS, () -> y.opKind(Integer.MIN_VALUE));
        y.diff(0, 0);
        checks.thrown("30 an empty script", BOUNDS, () -> y.opKind(0));
    }

    private static void p31OpNode() {
        TreeDiffer x = new TreeDiffer();
        checks.thrown("31 no script", STATE, () -> x.opNode(0));
        checks.thrown("31 no script before no operation", STATE, () -> x.opNode(-1));
        TreeDiffer y = allKinds();
        int[] nodes = {0, 1, 1, 2, 3, 5, 6};
        for (int operation = 0; operation < nodes.length; operation++) {
            int number = operation;
            checks.due("31 node of " + number, nodes[number], () -> y.opNode(number));
        }
        checks.due("31 the script with the nodes", "v0i1l1v2m3d5i6", () -> script(y));
        checks.thrown("31 negative", BOUNDS, () -> y.opNode(-1));
        checks.thrown("31 behind the last", BOUNDS, () -> y.opNode(7));
        checks.thrown("31 greatest", BOUNDS, () -> y.opNode(Integer.MAX_VALUE));
    }

    private static void p32OpTarget() {
        TreeDiffer x = new TreeDiffer();
        checks.thrown("32 no script", STATE, () -> x.opTarget(0));
        checks.thrown("32 no script before no operation", STATE, () -> x.opTarget(-1));
        TreeDiffer y = allKinds();
        int[] targets = {0, 1, 2, 3, 5, -1, 6};
        for (int operation = 0; operation < targets.length; operation++) {
            int number = operation;
            if (number == 5) {
                checks.thrown("32 a deletion", ELEMENT, () -> y.opTarget(number));
            } else {
                checks.due("32 target of " + number, targets[number], () -> y.opTarget(number));
            }
        }
        checks.thrown("32 negative", BOUNDS, () -> y.opTarget(-1));
        checks.thrown("32 behind the last", BOUNDS, () -> y.opTarget(7));
        checks.thrown("32 greatest", BOUNDS, () -> y.opTarget(Integer.MAX_VALUE));
    }

    private static void p33Partner() {
        TreeDiffer x = new TreeDiffer();
        checks.thrown("33 no script", STATE, () -> x.partner(0));
        checks.thrown("33 no script before no node", STATE, () -> x.partner(-1));
        TreeDiffer y = allKinds();
        int[] partners = {0, 2, 3, -1, 4, -1, -1};
        for (int node = 0; node < partners.length; node++) {
            int number = node;
            if (partners[number] < 0) {
                checks.thrown("33 no partner of " + number, ELEMENT, () -> y.partner(number));
            } else {
                checks.due("33 partner of " + number, partners[number], () -> y.partner(number));
            }
        }
        y.copyTree(2, 0);
        checks.due("33 trees do not affect it", 4, () -> y.partner(4));
        checks.thrown("33 negative", BOUNDS, () -> y.partner(-1));
        checks.thrown("33 behind the last", BOUNDS, () -> y.partner(7));
        checks.thrown("33 greatest", BOUNDS, () -> y.partner(Integer.MAX_VALUE));
        y.diff(0, 0);
        checks.thrown("33 behind the last of a smaller tree", BOUNDS, () -> y.partner(1));
    }

    private static void p34Moves() {
        TreeDiffer x = with("a(b#1(m#9)c#2(m#9)d#3e#4)", "a(b#1c#2d#3(m#9)e#4(m#9))");
        checks.thrown("34 no script", STATE, x::moves);
        x.diff(0, 2);
        checks.due("34 none", 0, x::moves);
        x.diff(0, 1);
        checks.due("34 two", 2, x::moves);
        checks.due("34 one", 1, () -> allKinds().moves());
    }

    private static void p35ScriptCost() {
        TreeDiffer x = with("a(b(cd))", "z=1(b(cd))");
        checks.thrown("35 no script", STATE, x::scriptCost);
        x.diff(0, 0);
        checks.due("35 an empty script", 0, x::scriptCost);
        x.diff(0, 1);
        checks.due("35 a label and a value", 4, x::scriptCost);
        x.diff(0, 2);
        checks.due("35 a deletion of three nodes", 6, x::scriptCost);
        x.diff(2, 0);
        checks.due("35 an insertion of three nodes", 6, x::scriptCost);
        checks.due("35 all kinds", 14, () -> allKinds().scriptCost());
        TreeDiffer y = with("a(b#1c#2(xyz)d#3(xyzx))", "a(b#1d#3(xyzx)c#2(xyz))");
        y.diff(0, 1);
        checks.due("35 a move of four nodes", 1, y::scriptCost);
    }

    private static void p36GivesTarget() {
        TreeDiffer x = allKinds();
        TreeDiffer y = new TreeDiffer();
        checks.thrown("36 no script", STATE, y::givesTarget);
        checks.due("36 all kinds", true, x::givesTarget);
        checks.due("36 the trees stay", "a(b#1c#2(x#9)d#3e#4(y))", () -> tree(x, 0));
        checks.due("36 the script stays", "v0i1l1v2m3d5i6", () -> script(x));
        x.copyTree(2, 0);
        x.copyTree(2, 1);
        checks.due("36 trees do not affect it", true, x::givesTarget);
        checks.thrown("36 no conflict", ELEMENT, x::conflictOperation);
        x.diff(0, 0);
        checks.due("36 an empty script", true, x::givesTarget);
        TreeDiffer z = with(TWENTY, "a(b#1bbbbbbbbbbbbbbbbbb)");
        z.diff(0, 1);
        checks.due("36 20 nodes", true, z::givesTarget);
    }

    // ---- patches

    private static void p37Patch() {
        TreeDiffer x = new TreeDiffer();
        checks.thrown("37 no tree before no script", BOUNDS, () -> x.patch(3));
        checks.thrown("37 no script", STATE, () -> x.patch(0));
        x.diff(0, 0);
        for (int number : NO_TREE) {
            checks.thrown("37 no such tree", BOUNDS, () -> x.patch(number));
        }
        checks.due("37 an empty script", 1, () -> x.patch(1));
        TreeDiffer y = allKinds();
        String target = "a=1(k#6q#1c#2=1d#3(x#9)f#5)";
        checks.due("37 the old tree", 7, () -> y.patch(0));
        checks.due("37 the old tree becomes the new one", target, () -> tree(y, 0));
        checks.due("37 a value", "2 a(b=5)", () -> patched("a(b)", "a(b=5)", "a(b)"));
        checks.due("37 a value that is so already", "2 a(b=5)", () -> patched("a(b)", "a(b=5)", "a(b=5)"));
        checks.due("37 a value of a changed label", "2 a(c#1=5)", () -> patched("a(b#1)", "a(b#1=5)", "a(c#1)"));
        checks.due("37 a label", "2 a(c)", () -> patched("a(b)", "a(c)", "a(b)"));
        checks.due("37 a label that is so already", "2 a(c#1)", () -> patched("a(b#1)", "a(c#1)", "a(c#1)"));
        checks.due("37 a label of a changed value", "2 a(c#1=5)", () -> patched("a(b#1)", "a(c#1)", "a(b#1=5)"));
        checks.due("37 a deletion", "2 a(c#2)", () -> patched("a(b#1(n)c#2)", "a(c#2)", "a(b#1(n)c#2)"));
        checks.due("37 a deletion without image", "2 a(c#2)", () -> patched("a(b#1c#2)", "a(c#2)", "a(c#2)"));
        checks.due("37 a moved subtree keeps its changes", "5 a(b#1c#2(m#9=7(n)))",
                () -> patched("a(b#1(m#9)c#2)", "a(b#1c#2(m#9))", "a(b#1(m#9=7(n))c#2)"));
        checks.due("37 a tree changed elsewhere", "9 a=1(k#6q#1c#2=1d#3(x#9=7(w))f#5h#8)",
                () -> patched("a(b#1c#2(x#9)d#3e#4(y))", target, "a(b#1c#2(x#9=7(w))d#3e#4(y)h#8)"));
        checks.due("37 a deletion makes room for a key", "6 a(c#2(xyz)q#1=1)",
                () -> patched("a(b#1c#2(xyz))", "a(c#2(xyz)q#1=1)", "a(b#1c#2(xyz))"));
        checks.due("37 up to 20 nodes", "20 a(z" + "b".repeat(18) + ")",
                () -> patched("a", "a(z)", "a(" + "b".repeat(18) + ")"));
        checks.due("37 a deletion makes room for a node", "20 a(c#2" + "b".repeat(18) + ")",
                () -> patched("a(d#1)", "a(c#2)", "a(d#1" + "b".repeat(18) + ")"));
    }

    private static void p37PatchPlaces() {
        checks.due("37 before all children", "4 a(c#2zb#1)", () -> patched("a(b#1)", "a(c#2b#1)", "a(zb#1)"));
        checks.due("37 directly behind the sibling's subtree", "6 a(b#1(y)x#3zc#2)",
                () -> patched("a(b#1c#2)", "a(b#1x#3c#2)", "a(b#1(y)zc#2)"));
        checks.due("37 the nearest sibling that has a counterpart", "4 a(b#1x#3z)",
                () -> patched("a(b#1c#2)", "a(b#1c#2x#3)", "a(b#1z)"));
        checks.due("37 no sibling has one", "3 a(x#3z)", () -> patched("a(c#2)", "a(c#2x#3)", "a(z)"));
        checks.due("37 the nearest of two", "5 a(b#1zc#2x#3)",
                () -> patched("a(b#1c#2)", "a(b#1c#2x#3)", "a(b#1zc#2)"));
        checks.due("37 behind an inserted one", "6 a(b#1x#3(w)y#4z)",
                () -> patched("a(b#1)", "a(b#1x#3(w)y#4)", "a(b#1z)"));
        checks.due("37 behind a moved one", "7 a(b#1m#9=4(n)k#8zc#2)",
                () -> patched("a(b#1c#2(m#9))", "a(b#1m#9k#8c#2)", "a(b#1zc#2(m#9=4(n)))"));
        checks.due("37 a whole subtree", "6 a(b(c#1=5(d)e)z)", () -> patched("a", "a(b(c#1=5(d)e))", "a(z)"));
        checks.due("37 below a deeper node", "6 a(zb#1(c#1(x))d)",
                () -> patched("a(b#1(c#1))", "a(b#1(c#1(x)))", "a(zb#1(c#1)d)"));
        checks.due("37 a move among siblings", "5 a(c#2(x)b#1z)",
                () -> patched("a(b#1c#2(x))", "a(c#2(x)b#1)", "a(b#1c#2(x)z)"));
        checks.due("37 two moves change places", "6 a(b#1(n#8)c#2(m#9)z)",
                () -> patched("a(b#1(m#9)c#2(n#8))", "a(b#1(n#8)c#2(m#9))", "a(b#1(m#9)c#2(n#8)z)"));
    }

    private static void p37PatchConflictsChangeNothing() {
        TreeDiffer x = with("a(b#1c#2)", "a=1(c#2d#3)", "a(b#1c#2e#3)");
        x.diff(0, 1);
        checks.due("37 the script", "v0d1i2", () -> script(x));
        checks.thrown("37 a conflict in the last pass", UNSUPPORTED, () -> x.patch(2));
        checks.due("37 the tree stays", "a(b#1c#2e#3)", () -> tree(x, 2));
        checks.due("37 the script stays", "v0d1i2", () -> script(x));
        checks.due("37 the script can still be applied", 3, () -> x.patch(0));
        checks.due("37 the script can still be applied", "a=1(c#2d#3)", () -> tree(x, 0));
    }

    private static void conflictIs(String want, String first, String second, String third) {
        checks.due("38 39 " + first + " " + second + " " + third, want, () -> patched(first, second, third));
    }

    private static void p38ConflictOperation() {
        TreeDiffer x = with("a(b#1)", "z(b#1=5)", "a(b#1=7)");
        checks.thrown("38 no conflict", ELEMENT, x::conflictOperation);
        x.diff(0, 1);
        x.patch(0);
        checks.thrown("38 no conflict", ELEMENT, x::conflictOperation);
        checks.thrown("38 a conflict", UNSUPPORTED, () -> x.patch(2));
        checks.due("38 its operation", 1, x::conflictOperation);
        checks.thrown("38 no such tree", BOUNDS, () -> x.patch(-1));
        x.patch(0);
        x.diff(0, 0);
        checks.due("38 a patch and a diff keep it", 1, x::conflictOperation);
        x.diff(1, 2);
        checks.thrown("38 another conflict", UNSUPPORTED, () -> {
            x.setLabel(0, 0, 'q');
            return x.patch(0);
        });
        checks.due("38 the latest one", 0, x::conflictOperation);
        conflictIs("c1", "a(b#1c#2)", "a(x#3b#1)", "a(x#3b#1c#2(n))");
        conflictIs("c1", "a(b#1)", "a(x#3c#1)", "a(x#3d#1)");
        conflictIs("c1", "a(b#1c#2)", "z(b#1)", "q(b#1c#2(n))");
        conflictIs("c0", "a(b#1c#2)", "a", "a(b#1(n)c#2(n))");
        conflictIs("k1", "a(b#1)", "a(b#1x#3y#4)", "a(b#1y#4)");
    }

    private static void p39ConflictReason() {
        TreeDiffer x = with("a", "b", "c");
        checks.thrown("39 no conflict", ELEMENT, x::conflictReason);
        x.diff(0, 1);
        checks.thrown("39 a conflict", UNSUPPORTED, () -> x.patch(2));
        checks.due("39 its reason", 'c', x::conflictReason);
        x.patch(0);
        checks.due("39 a patch keeps it", 'c', x::conflictReason);
        String full = "a(b#1" + "b".repeat(18) + ")";
        conflictIs("c0", "a(b#1c#2)", "a(c#2)", "a(b#1(n)c#2)");
        conflictIs("c0", "a(b#1c#2)", "a(c#2)", "a(b#1=1c#2)");
        conflictIs("c0", "a(b#1)", "a(c#1)", "a(d#1)");
        conflictIs("c0", "a=1", "a=2", "a=3");
        conflictIs("c0", "a(b#1(m#9)c#2)", "a(b#1c#2)", "a(b#1(m#9=1)c#2)");
        conflictIs("g0", "a(b#1(m#9)c#2)", "a(b#1c#2(m#9))", "a(b#1c#2)");
        conflictIs("g0", "a(b#1(m#9)c#2)", "a(b#1c#2(m#9))", "a(b#1(m#9))");
        conflictIs("g0", "a(b#1)", "a(c#1)", "a");
        conflictIs("g0", "a(b#1)", "a(b#1=1)", "a(b)");
        conflictIs("g0", "a(b#1)", "a(b#1(c))", "a");
        conflictIs("g0", "a(b#1)", "a(b#1(c))", TWENTY);
        conflictIs("k0", "a", "a(b#1)", "a(c#1)");
        conflictIs("k0", "a", "a(b#1)", full);
        conflictIs("k0", "a(b#1(m#9)c#2)", "a(b#1c#2(m#9))", "a(b#1(m#9)c#2(n#9))");
        conflictIs("f0", "a", "a(b)", TWENTY);
        conflictIs("f0", "a", "a(b(c))", "a(" + "b".repeat(18) + ")");
        conflictIs("f1", "a(b#1c#2(m#9))", "a(k#7b#1(m#9)c#2)", "a(b#1c#2(m#9)" + "z".repeat(16) + ")");
    }

    private static void p40IsConsistent() {
        TreeDiffer x = new TreeDiffer();
        checks.due("40 a new object", true, x::isConsistent);
        TreeDiffer y = allKinds();
        checks.due("40 after a diff", true, y::isConsistent);
        y.patch(0);
        y.writeTree(0);
        checks.due("40 after a patch", true, y::isConsistent);
        type(y, "a(b");
        checks.due("40 a text in the buffer", true, y::isConsistent);
        checks.thrown("40 a wrong text", ARGUMENT, () -> y.read(0));
        checks.due("40 after a wrong text", true, y::isConsistent);
        checks.thrown("40 a conflict", UNSUPPORTED, () -> y.patch(2));
        checks.due("40 after a conflict", true, y::isConsistent);
        y.removeNode(0, 1);
        y.addNode(0, 1, 0, 'z');
        checks.due("40 after changes", true, y::isConsistent);
        TreeDiffer z = with(TWENTY, "a(" + "b".repeat(18) + "(c))", "a");
        z.diff(0, 1);
        checks.due("40 full trees", true, z::isConsistent);
        z.diff(0, 0);
        checks.due("40 an empty script", true, z::isConsistent);
        checks.due("40 no operations", 0, z::operations);
        fullOfChanges(z);
        checks.due("40 as many operations as can be", true, z::isConsistent);
        type(z, "x".repeat(80));
        checks.due("40 80 characters in the buffer", true, z::isConsistent);
    }
}
