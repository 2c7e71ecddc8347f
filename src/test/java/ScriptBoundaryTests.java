/**
 * What BoundaryTests does for texts, trees and distances, for scripts and patches: every sentence of the document that
 * names a boundary, on the side that is still accepted and one step behind it. The promise's number stands first in
 * each line.
 */
public final class ScriptBoundaryTests extends DifferCalls {
    private static final Checks checks = new Checks("ScriptBoundaryTests");
    private static final String NINE_KEYS = "a(b#1b#2b#3b#4b#5b#6b#7b#8b#9)";

    public static void main(String[] args) {
        canonicalMatchings();
        scripts();
        longestScripts();
        moves();
        mostMoves();
        latestScript();
        patchesOfImages();
        patchesThatFindItSoAlready();
        placesOfPatches();
        placesBehindCounterparts();
        sizesOfPatches();
        conflictsOfDeletions();
        conflictsOfChanges();
        conflictsWithoutImages();
        conflictsOfKeys();
        conflictsOfSizes();
        firstConflict();
        latestConflict();
        checks.close();
    }

    // ---- scripts

    private static void scriptIs(String want, String first, String second) {
        checks.due("28 from " + first + " to " + second, want, () -> scriptOf(first, second));
    }

    private static void canonicalMatchings() {
        // "As long as there are children left on both sides".
        scriptIs("", "a", "a");
        scriptIs("i1i2", "a", "a(bc)");
        scriptIs("d1d2", "a(bc)", "a");
        // "The first ones that are left are a pair, if they can be a pair and there is a matching with the least cost".
        scriptIs("d2", "a(bb)", "a(b)");
        scriptIs("i2", "a(b)", "a(bb)");
        scriptIs("d19", TWENTY, NINETEEN);
        scriptIs("i19", NINETEEN, TWENTY);
        scriptIs("l1v1", "a(b)", "a(c=1)");
        scriptIs("l1v1d2d3", "a(b(cd))", "a(e=1)");
        scriptIs("l1d2", "a(bb)", "a(c)");
        scriptIs("d1", "a(cb)", "a(b)");
        // "Otherwise, the first child that is left of the first node belongs to no pair, if there is a matching".
        scriptIs("d1i1", "a(b#1)", "a(c#2)");
        scriptIs("m1", "a(bc)", "a(cb)");
        scriptIs("m1", "a(b#1c#2)", "a(c#2b#1)");
        scriptIs("d1i2", "a(b#1c#2)", "a(c#2d#3)");
        // "Otherwise, the first child that is left of the second node belongs to no pair".
        scriptIs("i1", "a(c)", "a(bc)");
        scriptIs("i1d2", "a(b#1c#2)", "a(d#3b#1)");
    }

    private static void scripts() {
        scriptIs("", CHAIN, CHAIN);
        scriptIs("", TWENTY, TWENTY);
        // "A label operation if the labels are different, then a value operation if the values are different".
        scriptIs("l0", "a", "z");
        scriptIs("v0", "a", "a=99");
        scriptIs("l0v0", "a", "z=99");
        scriptIs("l0v0l1v1", "a(b)", "c=1(d=1)");
        // "When there are no children left on one side, all that are left on the other side follow in their order".
        scriptIs("d2d3", "a(bcd)", "a(b)");
        scriptIs("i2i3", "a(b)", "a(bcd)");
        scriptIs("d2d3v4", "a(b(cd)e)", "a(be=1)");
        scriptIs("i2i3v2", "a(be)", "a(b(cd)e=1)");
        scriptIs("i2i3i4i5i6i7i8i9i10i11i12i13i14i15i16i17i18i19d2", "a(b#1c#2)", "a(b#1(xxxxxxxxxxxxxxxxxx))");
        scriptIs("d2d3d4d5d6d7d8d9d10d11d12d13d14d15d16d17d18d19i2", "a(b#1(xxxxxxxxxxxxxxxxxx))", "a(b#1c#2)");
        // "A deletion and an insertion concern the whole subtree of the child".
        scriptIs("d1", CHAIN, "a");
        scriptIs("i1", "a", CHAIN);
        scriptIs("d1i1", CHAIN, KEYED_CHAIN);
    }

    private static void scriptHas(int operations, int cost, int moves, String first, String second) {
        TreeDiffer x = with(first, second);
        String what = " from " + first + " to " + second;
        checks.due("28" + what, operations, () -> x.diff(0, 1));
        checks.due("29" + what, operations, x::operations);
        checks.due("34" + what, moves, x::moves);
        checks.due("35" + what, cost, x::scriptCost);
        checks.due("36" + what, true, x::givesTarget);
        checks.due("37" + what, x.size(1), () -> x.patch(0));
        checks.due("22" + what, true, () -> x.areEqual(0, 0, 1, 0));
    }

    private static void longestScripts() {
        scriptHas(0, 0, 0, CHAIN, CHAIN);
        scriptHas(19, 38, 0, TWENTY, "a");
        scriptHas(19, 38, 0, "a", TWENTY);
        scriptHas(1, 38, 0, CHAIN, "a");
        scriptHas(1, 38, 0, "a", CHAIN);
        scriptHas(2, 76, 0, CHAIN, KEYED_CHAIN);
        scriptHas(20, 76, 0, TWENTY, KEYED_CHAIN);
        scriptHas(28, 56, 0, TWENTY, NINE_KEYS);
        scriptHas(30, 60, 0, NINE_KEYS, "z=1" + TWENTY.substring(1));
        TreeDiffer x = new TreeDiffer();
        checks.due("28 40 operations", 40, () -> fullOfChanges(x));
        checks.due("30 the last but one", 'l', () -> x.opKind(38));
        checks.due("30 the last of 40", 'v', () -> x.opKind(39));
        checks.due("31 the last of 40", 19, () -> x.opNode(39));
        checks.due("32 the last of 40", 19, () -> x.opTarget(39));
        checks.due("33 the last of 20 nodes", 19, () -> x.partner(19));
        checks.due("34 none of 40", 0, x::moves);
        checks.due("35 40 operations", 80, x::scriptCost);
        checks.due("36 40 operations", true, x::givesTarget);
        checks.due("37 40 operations", 20, () -> x.patch(0));
        checks.due("37 gives the new tree", true, () -> x.areEqual(0, 0, 1, 0));
    }

    private static void moves() {
        // "The first insertion in the order of the script that is not part of a move yet", "if there is such an".
        scriptIs("m2m4", "a(b#1(m#9)c#2(m#9)d#3e#4)", "a(b#1c#2d#3(m#9)e#4(m#9))");
        scriptIs("d4d6m2", "a(b#1(m#9)c#2(m#9)d#3(m#9)e#4)", "a(b#1c#2d#3e#4(m#9))");
        scriptIs("m5i4i6", "a(b#1c#2d#3e#4(m#9))", "a(b#1(m#9)c#2(m#9)d#3(m#9)e#4)");
        scriptIs("d2", "a(b#1(m#9)c#2)", "a(b#1c#2)");
        scriptIs("i3", "a(b#1c#2)", "a(b#1c#2(m#9))");
        // "Whose subtree is equal to the deleted one": up to its last node.
        scriptIs("m2", "a(b#1(x(yz))c#2)", "a(b#1c#2(x(yz)))");
        scriptIs("d2i3", "a(b#1(x(yz))c#2)", "a(b#1c#2(x(yy)))");
        scriptIs("d2i3", "a(b#1(x(yz))c#2)", "a(b#1c#2(x(yz=1)))");
        scriptIs("d2i3", "a(b#1(x(yz))c#2)", "a(b#1c#2(x(yz#1)))");
        scriptIs("d2i3", "a(b#1(x(yz))c#2)", "a(b#1c#2(x(y)))");
        scriptIs("d2i3", "a(b#1(x(yz))c#2)", "a(b#1c#2(x(yzz)))");
        scriptIs("d2i3", "a(b#1(x(yz))c#2)", "a(b#1c#2(x(y(z))))");
    }

    /** As many nodes in one move, and as many moves in one script, as trees of 20 nodes with nine keys allow. */
    private static void mostMoves() {
        String many = "b#1(c(d(e(f(g(h(i(j(k(l(m(n(o(p(q(r(s)))))))))))))))))";
        scriptHas(1, 1, 1, "a(" + many + "z#2)", "a(z#2(" + many + "))");
        scriptIs("m1", "a(" + many + "z#2)", "a(z#2(" + many + "))");
        String backwards = "a(b#9b#8b#7b#6b#5b#4b#3b#2b#1)";
        scriptHas(8, 8, 8, NINE_KEYS, backwards);
        scriptIs("m8m7m6m5m4m3m2m1", NINE_KEYS, backwards);
        String nine = "m#1m#2m#3m#4m#5m#6m#7m#8m#9";
        scriptHas(9, 9, 9, "a(b#1(" + nine + ")c#2)", "a(b#1c#2(" + nine + "))");
        scriptIs("m2m3m4m5m6m7m8m9m10", "a(b#1(" + nine + ")c#2)", "a(b#1c#2(" + nine + "))");
    }

    /** "Kept together with copies of its two trees; later changes of trees do not affect it." */
    private static void latestScript() {
        TreeDiffer x = allKinds();
        x.copyTree(2, 0);
        read(x, 1, TWENTY);
        x.removeNode(1, 19);
        checks.due("29 the old one", 7, x::operations);
        checks.due("30 the old one", 'i', () -> x.opKind(6));
        checks.due("31 the old one", 6, () -> x.opNode(6));
        checks.due("32 the old one", 6, () -> x.opTarget(6));
        checks.due("33 a node that the tree has no more", 4, () -> x.partner(4));
        checks.thrown("33 a node that the old tree had not", BOUNDS, () -> x.partner(7));
        checks.due("34 the old one", 1, x::moves);
        checks.due("35 the old one", 14, x::scriptCost);
        checks.due("36 the old one", true, x::givesTarget);
        checks.due("6 the old one", "v0i1l1v2m3d5i6", () -> script(x));
        read(x, 2, "a(b#1c#2(x#9)d#3e#4(y))");
        checks.due("37 the old one", 7, () -> x.patch(2));
        checks.due("37 and its new tree", "a=1(k#6q#1c#2=1d#3(x#9)f#5)", () -> tree(x, 2));
        // "Which becomes the latest script", also when it is empty.
        checks.due("28 an empty one", 0, () -> x.diff(2, 2));
        checks.due("29 an empty one", 0, x::operations);
        checks.due("34 an empty one", 0, x::moves);
        checks.due("35 an empty one", 0, x::scriptCost);
        checks.due("36 an empty one", true, x::givesTarget);
        checks.due("6 an empty one", 0, x::writeScript);
        checks.due("33 each node is a pair", 6, () -> x.partner(6));
        checks.due("37 an empty one", 19, () -> x.patch(1));
    }

    // ---- patches

    private static void patchIs(String want, String first, String second, String third) {
        checks.due("37 from " + first + " to " + second + " of " + third, want, () -> patched(first, second, third));
    }

    private static void patchesOfImages() {
        TreeDiffer x = with("a(b)", "a(c)", "a(b)");
        x.diff(0, 1);
        for (int tree = 0; tree < 3; tree++) {
            int number = tree;
            checks.due("37 tree " + number, 2, () -> x.patch(number));
            checks.due("37 tree " + number, "a(c)", () -> tree(x, number));
        }
        patchIs("20 " + TWENTY, "a(b)", "a(b)", TWENTY);
        patchIs("1 a", TWENTY, TWENTY, "a");
        patchIs("4 a(z#9b#1=5y#8)", "a(b#1)", "a(b#1=5)", "a(z#9b#1y#8)");
        // "The image of the deleted or moved node, with its whole subtree, is taken out".
        patchIs("1 a", CHAIN, "a", CHAIN);
        patchIs("2 a(z)", "a(b#1(cd))", "a", "a(b#1(cd)z)");
        patchIs("4 a(b#1c#2(m#9))", "a(b#1(m#9(n))c#2)", "a(b#1c#2(m#9(n)))", "a(b#1(m#9)c#2)");
        patchIs("7 a(b#1c#2(m#9=7(nnn)))", "a(b#1(m#9)c#2)", "a(b#1c#2(m#9))", "a(b#1(m#9=7(nnn))c#2)");
        patchIs("4 a(b#1c#2(z#9))", "a(b#1(m#9)c#2)", "a(b#1c#2(m#9))", "a(b#1(z#9)c#2)");
        // "A deletion whose node has no image does nothing".
        patchIs("2 a(c#2)", "a(b#1)", "a", "a(c#2)");
        patchIs("1 a", "a(b#1c#2d#3)", "a", "a");
        patchIs("1 a", "a(b#1c#2d#3)", "a", "a(d#3)");
        patchIs("2 a(e#4)", "a(b#1c#2d#3)", "a", "a(e#4)");
    }

    /** "If it is so already, the operation does nothing." */
    private static void patchesThatFindItSoAlready() {
        patchIs("1 z", "a", "z", "a");
        patchIs("1 z", "a", "z", "z");
        patchIs("1 a=99", "a", "a=99", "a");
        patchIs("1 a=99", "a", "a=99", "a=99");
        patchIs("1 a", "a=99", "a", "a=99");
        patchIs("1 a", "a=99", "a", "a");
        patchIs("1 z=99", "a", "z=99", "z=99");
        patchIs("1 z=99", "a", "z=99", "z");
        patchIs("1 z=99", "a", "z=99", "a=99");
        TreeDiffer x = with("a(b#1c#2)", "z=9(b#1)", "a(b#1c#2)");
        x.diff(0, 1);
        for (int times = 1; times <= 3; times++) {
            checks.due("37 applied again", 2, () -> x.patch(2));
            checks.due("37 applied again", "z=9(b#1)", () -> tree(x, 2));
        }
        checks.thrown("38 none of it was a conflict", ELEMENT, x::conflictOperation);
    }

    private static void placesOfPatches() {
        // "Or before all children if there is none": no child, no earlier sibling, no sibling with a counterpart.
        patchIs("2 a(b)", "a", "a(b)", "a");
        patchIs("4 a(bzz)", "a", "a(b)", "a(zz)");
        patchIs("4 a(c#2zb#1)", "a(b#1)", "a(c#2b#1)", "a(zb#1)");
        patchIs("4 a(d#3zy)", "a(b#1c#2)", "a(b#1c#2d#3)", "a(zy)");
        // "Directly behind the counterpart": the first child, the last one, one with nodes below it.
        patchIs("4 a(b#1c#2z)", "a(b#1)", "a(b#1c#2)", "a(b#1z)");
        patchIs("4 a(zb#1c#2)", "a(b#1)", "a(b#1c#2)", "a(zb#1)");
        patchIs("6 a(b#1(xy)c#2z)", "a(b#1)", "a(b#1c#2)", "a(b#1(xy)z)");
        patchIs("6 a(b#1(x(y))c#2z)", "a(b#1)", "a(b#1c#2)", "a(b#1(x(y))z)");
        // "Its nearest earlier sibling that has a counterpart among the children of this image now".
        patchIs("6 a(b#1zc#2d#3y)", "a(b#1c#2)", "a(b#1c#2d#3)", "a(b#1zc#2y)");
        patchIs("4 a(b#1d#3z)", "a(b#1c#2)", "a(b#1c#2d#3)", "a(b#1z)");
        patchIs("4 a(zc#2d#3)", "a(b#1c#2)", "a(b#1c#2d#3)", "a(zc#2)");
        patchIs("4 a(c#2d#3b#1)", "a(b#1c#2)", "a(b#1c#2d#3)", "a(c#2b#1)");
        // "As a child of the image of the node with which the parent is a pair", however deep it is.
        patchIs("6 a(zb#1(c#2(x))y)", "a(b#1(c#2))", "a(b#1(c#2(x)))", "a(zb#1(c#2)y)");
        String nineteen = CHAIN.replace("(t)", "");
        patchIs("20 " + CHAIN, nineteen, CHAIN, nineteen);
    }

    /** "Or the top of the subtree that was put into the tree for it." */
    private static void placesBehindCounterparts() {
        patchIs("5 a(bcdz)", "a", "a(bcd)", "a(z)");
        patchIs("5 a(b(x)cz)", "a", "a(b(x)c)", "a(z)");
        patchIs("6 a(b(x(y))cz)", "a", "a(b(x(y))c)", "a(z)");
        patchIs("7 a(m#9(n)k#8b#1zc#2)", "a(b#1c#2(m#9))", "a(m#9k#8b#1c#2)", "a(b#1zc#2(m#9(n)))");
        patchIs("7 a(k#8m#9(n)b#1zc#2)", "a(b#1c#2(m#9))", "a(k#8m#9b#1c#2)", "a(b#1zc#2(m#9(n)))");
        patchIs("5 a(c#2(x)b#1z)", "a(b#1c#2(x))", "a(c#2(x)b#1)", "a(b#1c#2(x)z)");
        patchIs("6 a(b#1(n#8)c#2(m#9)z)", "a(b#1(m#9)c#2(n#8))", "a(b#1(n#8)c#2(m#9))", "a(b#1(m#9)c#2(n#8)z)");
        patchIs("6 a(x(y)wb#1c#2)", "a(b#1)", "a(x(y)b#1c#2)", "a(wb#1)");
        // "A copy of the inserted subtree": the next patch puts in another one.
        TreeDiffer x = with("a", "a(b(c))", "a(z)");
        x.diff(0, 1);
        checks.due("37 one copy", 4, () -> x.patch(2));
        checks.due("37 it is changed", 0, () -> x.setValue(2, 2, 5));
        checks.due("37 another copy", 6, () -> x.patch(2));
        checks.due("37 both", "a(b(c)b(c=5)z)", () -> tree(x, 2));
        checks.due("37 the new tree of the script stays", true, x::givesTarget);
    }

    /** "If the tree would have more than 20 nodes": up to 20, and down to one. */
    private static void sizesOfPatches() {
        patchIs("20 a(zbbbbbbbbbbbbbbbbbb)", "a", "a(z)", NINETEEN);
        patchIs("20 a(z(y)bbbbbbbbbbbbbbbbb)", "a", "a(z(y))", EIGHTEEN);
        patchIs("20 a(yzbbbbbbbbbbbbbbbbb)", "a", "a(yz)", EIGHTEEN);
        patchIs("20 " + CHAIN, "a", CHAIN, "a");
        patchIs("20 " + TWENTY, "a", TWENTY, "a");
        patchIs("20 " + KEYED_CHAIN, TWENTY, KEYED_CHAIN, TWENTY);
        patchIs("20 a(c#2bbbbbbbbbbbbbbbbbb)", "a(d#1)", "a(c#2)", "a(d#1bbbbbbbbbbbbbbbbbb)");
        patchIs("20 a(b#1c#2(m#9)zzzzzzzzzzzzzzzz)", "a(b#1(m#9)c#2)", "a(b#1c#2(m#9))",
                "a(b#1(m#9)c#2zzzzzzzzzzzzzzzz)");
        patchIs("20 b(ccccccccccccccccccc)", TWENTY, "b(ccccccccccccccccccc)", TWENTY);
        patchIs("1 a", TWENTY, "a", TWENTY);
        patchIs("1 a", CHAIN, "a", CHAIN);
        patchIs("1 a", CHAIN, "a", "a");
    }

    // ---- conflicts

    /** "If the subtree of the image is not equal to the deleted one (in the first pass, for 'd' only)". */
    private static void conflictsOfDeletions() {
        String old = "a(b#1(n=5)c#2)";
        patchIs("2 a(c#2)", old, "a(c#2)", old);
        patchIs("c0", old, "a(c#2)", "a(z#1(n=5)c#2)");
        patchIs("c0", old, "a(c#2)", "a(b#1=1(n=5)c#2)");
        patchIs("c0", old, "a(c#2)", "a(b#1(m=5)c#2)");
        patchIs("c0", old, "a(c#2)", "a(b#1(n=6)c#2)");
        patchIs("c0", old, "a(c#2)", "a(b#1(n)c#2)");
        patchIs("c0", old, "a(c#2)", "a(b#1(n#1=5)c#2)");
        patchIs("c0", old, "a(c#2)", "a(b#1(n=5x)c#2)");
        patchIs("c0", old, "a(c#2)", "a(b#1(n=5(x))c#2)");
        patchIs("c0", old, "a(c#2)", "a(b#1c#2)");
        patchIs("4 a(b#3(n=5)c#2)", old, "a(c#2)", "a(b#3(n=5)c#2)");
        patchIs("3 a=9(c#2(x))", old, "a(c#2)", "a=9(b#1(n=5)c#2(x))");
        // "A moved subtree may have been changed, and it moves with its changes".
        String moved = "a(c#2(b#1(n=5)))";
        patchIs("4 a(c#2(b#1(n=5)))", old, moved, old);
        patchIs("4 a(c#2(z#1(n=5)))", old, moved, "a(z#1(n=5)c#2)");
        patchIs("4 a(c#2(b#1=1(m=6)))", old, moved, "a(b#1=1(m=6)c#2)");
        patchIs("5 a(c#2(b#1(n=5x)))", old, moved, "a(b#1(n=5x)c#2)");
        patchIs("3 a(c#2(b#1))", old, moved, "a(b#1c#2)");
    }

    /** "If the label or value of the image is neither that of the old tree nor that of the new tree". */
    private static void conflictsOfChanges() {
        patchIs("1 b", "a", "b", "a");
        patchIs("1 b", "a", "b", "b");
        patchIs("c0", "a", "b", "c");
        patchIs("1 a=99", "a=98", "a=99", "a=98");
        patchIs("1 a=99", "a=98", "a=99", "a=99");
        patchIs("c0", "a=98", "a=99", "a=97");
        patchIs("c0", "a=98", "a=99", "a");
        patchIs("c0", "a", "a=1", "a=2");
        // A label operation has to do with the label alone, a value operation with the value alone.
        patchIs("1 b=7", "a", "b", "a=7");
        patchIs("1 z=1", "a", "a=1", "z");
        patchIs("c1", "a", "b=1", "a=7");
        patchIs("c0", "a", "b=1", "z=1");
    }

    /** "If a moved node, a node whose label or value changes, or the node that would get a child has no image." */
    private static void conflictsWithoutImages() {
        patchIs("g0", "a(b#1(m#9)c#2)", "a(b#1c#2(m#9))", "a(b#1c#2)");
        patchIs("g0", "a(b#1(m#9)c#2)", "a(b#1c#2(m#9))", "a(b#1(m#8)c#2)");
        patchIs("g0", "a(b#1)", "a(c#1)", "a");
        patchIs("g0", "a(b#1)", "a(c#1)", "a(b)");
        patchIs("g0", "a(b#1)", "a(b#1=1)", "a");
        patchIs("g0", "a(b#1)", "a(b#1=1)", "a(z#2(b#1))");
        patchIs("g0", "a(b#1)", "a(b#1(c))", "a");
        patchIs("g0", "a(b#1(m#9)c#2)", "a(b#1c#2(m#9))", "a(b#1(m#9))");
        // "If both 'g' and another reason apply, it is 'g'".
        patchIs("g0", "a(b#1)", "a(b#1(c))", TWENTY);
        patchIs("g0", "a(b#1)", "a(b#1(c#3))", "a(c#3bbbbbbbbbbbbbbbbbb)");
        patchIs("g0", "a(b#1)", "a(c#1)", "a(d#2)");
    }

    /** "If the node that would get a child has a child with the same key (which is not 0)." */
    private static void conflictsOfKeys() {
        patchIs("k0", "a", "a(b#1)", "a(c#1)");
        patchIs("k0", "a", "a(b#9)", NINE_KEYS);
        patchIs("3 a(b#1c#2)", "a", "a(b#1)", "a(c#2)");
        patchIs("3 a(bb)", "a", "a(b)", "a(b)");
        patchIs("4 a(b#1c#2(d#1))", "a", "a(b#1)", "a(c#2(d#1))");
        patchIs("4 a(b(c#1)z#1)", "a", "a(b(c#1))", "a(z#1)");
        patchIs("k1", "a(b#1)", "a(b#1x#3y#4)", "a(b#1y#4)");
        patchIs("k0", "a(b#1(m#9)c#2)", "a(b#1c#2(m#9))", "a(b#1(m#9)c#2(n#9))");
        patchIs("5 a(b#1c#2(m#9n#8))", "a(b#1(m#9)c#2)", "a(b#1c#2(m#9))", "a(b#1(m#9)c#2(n#8))");
        // The child that had the key is taken out before.
        patchIs("6 a(c#2(xyz)q#1=1)", "a(b#1c#2(xyz))", "a(c#2(xyz)q#1=1)", "a(b#1c#2(xyz))");
        patchIs("3 a(c#2b#1)", "a(b#1c#2)", "a(c#2b#1)", "a(b#1c#2)");
        // "If 'k' and 'f' apply, it is 'k'".
        patchIs("k0", "a", "a(b#1)", "a(b#1bbbbbbbbbbbbbbbbbb)");
        patchIs("f0", "a", "a(b#1)", "a(b#2bbbbbbbbbbbbbbbbbb)");
    }

    /** "If the tree would have more than 20 nodes." */
    private static void conflictsOfSizes() {
        patchIs("f0", "a", "a(z)", TWENTY);
        patchIs("f0", "a", "a(z)", CHAIN);
        patchIs("f0", "a", "a(z(y))", NINETEEN);
        patchIs("f0", "a", CHAIN, "a(z)");
        patchIs("f1", "a", "a(yz)", NINETEEN);
        patchIs("f18", "a", TWENTY, "a(z)");
        // What was moved is counted when it is put in again.
        patchIs("f1", "a(b#1c#2(m#9))", "a(k#7b#1(m#9)c#2)", "a(b#1c#2(m#9)zzzzzzzzzzzzzzzz)");
        patchIs("f1", "a(b#1(m#9)c#2)", "a(b#1c#2(m#9)k#7)", "a(b#1(m#9)c#2zzzzzzzzzzzzzzzz)");
    }

    /** "The first operation that cannot be applied, in the order of the passes, is a conflict." */
    private static void firstConflict() {
        // In the same pass, in the order of the script.
        patchIs("c0", "a(b#1c#2)", "a", "a(b#1(n)c#2(n))");
        patchIs("c1", "a(b#1c#2)", "a", "a(b#1c#2(n))");
        patchIs("c0", "a(b#1)", "z(y#1)", "q(x#1)");
        patchIs("c1", "a(b#1)", "z(y#1)", "a(x#1)");
        patchIs("k0", "a", "a(b#1c#2)", "a(x#1y#2)");
        patchIs("k1", "a", "a(b#1c#2)", "a(y#2)");
        // The first pass before the second one, though the script has them the other way round.
        patchIs("c1", "a(b#1c#2)", "z(b#1)", "q(b#1c#2(n))");
        patchIs("g1", "a(b#1(m#9)c#2)", "z(b#1c#2(m#9))", "q(b#1c#2)");
        patchIs("c0", "a(b#1c#2)", "z(b#1)", "q(b#1c#2)");
        // The first pass before the third one.
        patchIs("c1", "a(b#1c#2)", "a(x#3b#1)", "a(x#3b#1c#2(n))");
        patchIs("k0", "a(b#1c#2)", "a(x#3b#1)", "a(x#3b#1c#2)");
        // The second pass before the third one.
        patchIs("c1", "a(b#1)", "a(x#3c#1)", "a(x#3d#1)");
        patchIs("k0", "a(b#1)", "a(x#3c#1)", "a(x#3b#1)");
        patchIs("c0", "a(b#1(m#9)c#2)", "z(b#1c#2(m#9))", "q(b#1(m#9)c#2(n#9))");
        patchIs("k1", "a(b#1(m#9)c#2)", "z(b#1c#2(m#9))", "a(b#1(m#9)c#2(n#9))");
        // The last one of 40 operations.
        TreeDiffer x = new TreeDiffer();
        fullOfChanges(x);
        x.copyTree(0, 2);
        x.setValue(2, 19, 2);
        checks.thrown("37 the last of 40", UNSUPPORTED, () -> x.patch(2));
        checks.due("38 the last of 40", 39, x::conflictOperation);
        checks.due("39 the last of 40", 'c', x::conflictReason);
        checks.due("37 none of the 39 others is applied", 'a', () -> x.label(2, 0));
        x.setValue(2, 19, 0);
        checks.due("37 without the conflict", 20, () -> x.patch(2));
        checks.due("37 all 40 are applied", true, () -> x.areEqual(2, 0, 1, 0));
    }

    /** "The latest recorded conflict": only another conflict takes its place. */
    private static void latestConflict() {
        TreeDiffer x = with("a", "z=5(b#1)", "a(c#1)");
        x.diff(0, 1);
        checks.thrown("38 there was no conflict", ELEMENT, x::conflictOperation);
        checks.thrown("39 there was no conflict", ELEMENT, x::conflictReason);
        checks.thrown("37 a conflict", UNSUPPORTED, () -> x.patch(2));
        conflictStays("k2", "the first one", x);
        checks.thrown("37 no such tree", BOUNDS, () -> x.patch(3));
        conflictStays("k2", "behind a refused patch", x);
        checks.due("37 without a conflict", 2, () -> x.patch(0));
        conflictStays("k2", "behind a patch", x);
        x.setLabel(0, 0, 'a');
        x.diff(1, 0);
        conflictStays("k2", "behind a diff", x);
        checks.due("36 the script gives its target", true, x::givesTarget);
        conflictStays("k2", "behind givesTarget", x);
        x.setLabel(2, 0, 'q');
        checks.thrown("37 another conflict", UNSUPPORTED, () -> x.patch(2));
        conflictStays("c0", "the latest one", x);
        checks.thrown("37 the same conflict", UNSUPPORTED, () -> x.patch(2));
        conflictStays("c0", "the same again", x);
    }

    private static void conflictStays(String want, String what, TreeDiffer x) {
        checks.due("38 39 " + what, want, () -> "" + x.conflictReason() + x.conflictOperation());
    }
}
