import java.util.NoSuchElementException;

/** Short ways to say calls of a differ, for the tests that extend this. */
abstract class DifferCalls {
    static final Class<IndexOutOfBoundsException> BOUNDS = IndexOutOfBoundsException.class;
    static final Class<IllegalArgumentException> ARGUMENT = IllegalArgumentException.class;
    static final Class<IllegalStateException> STATE = IllegalStateException.class;
    static final Class<UnsupportedOperationException> UNSUPPORTED = UnsupportedOperationException.class;
    static final Class<NoSuchElementException> ELEMENT = NoSuchElementException.class;

    /** Trees of so many nodes. */
    static final String EIGHTEEN = "a(bbbbbbbbbbbbbbbbb)";
    static final String NINETEEN = "a(bbbbbbbbbbbbbbbbbb)";
    static final String TWENTY = "a(bbbbbbbbbbbbbbbbbbb)";
    /** 20 nodes, as deep as they can be. */
    static final String CHAIN = "a(b(c(d(e(f(g(h(i(j(k(l(m(n(o(p(q(r(s(t)))))))))))))))))))";
    /** Just as deep, but no node below the root can be a pair with one of the other chain. */
    static final String KEYED_CHAIN = "a(b#1(c(d(e(f(g(h(i(j(k(l(m(n(o(p(q(r(s(t)))))))))))))))))))";
    /** Numbers of no tree; the greater ones would be trees if they were cut to a byte or a short. */
    static final int[] NO_TREE = {-1, 3, 256, 65536, Integer.MAX_VALUE, Integer.MIN_VALUE};

    static void type(TreeDiffer x, String text) {
        for (int index = 0; index < text.length(); index++) {
            x.type(text.charAt(index));
        }
    }

    static int read(TreeDiffer x, int tree, String text) {
        type(x, text);
        return x.read(tree);
    }

    /** A differ whose first trees have these texts. */
    static TreeDiffer with(String... texts) {
        TreeDiffer x = new TreeDiffer();
        for (int tree = 0; tree < texts.length; tree++) {
            read(x, tree, texts[tree]);
        }
        return x;
    }

    static String line(TreeDiffer x, int length) {
        StringBuilder text = new StringBuilder();
        for (int index = 0; index < length; index++) {
            text.append(x.charAt(index));
        }
        return text.toString();
    }

    static String tree(TreeDiffer x, int tree) {
        return line(x, x.writeTree(tree));
    }

    static String script(TreeDiffer x) {
        return line(x, x.writeScript());
    }

    /** The script of two texts. */
    static String scriptOf(String first, String second) {
        TreeDiffer x = with(first, second);
        x.diff(0, 1);
        return script(x);
    }

    /** The text of a third tree after the patch from the first to the second one, or how the patch failed. */
    static String patched(String first, String second, String third) {
        TreeDiffer x = with(first, second, third);
        x.diff(0, 1);
        String answer = Checks.answerOf(() -> x.patch(2));
        if (answer.equals("throws.UnsupportedOperationException")) {
            return "" + x.conflictReason() + x.conflictOperation();
        }
        return answer + " " + tree(x, 2);
    }

    /** A script with all kinds of operations. */
    static TreeDiffer allKinds() {
        TreeDiffer x = with("a(b#1c#2(x#9)d#3e#4(y))", "a=1(k#6q#1c#2=1d#3(x#9)f#5)");
        x.diff(0, 1);
        return x;
    }

    /** Makes the longest script: each of 20 nodes changes its label and its value. */
    static int fullOfChanges(TreeDiffer x) {
        read(x, 0, TWENTY);
        read(x, 1, "b(ccccccccccccccccccc)");
        for (int node = 0; node < 20; node++) {
            x.setValue(1, node, 1);
        }
        return x.diff(0, 1);
    }
}
