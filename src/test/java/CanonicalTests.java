import java.util.ArrayList;
import java.util.Arrays;
import java.util.List;

/**
 * Distances, canonical matchings and scripts of small trees, against the words of the document and nothing else: all
 * matchings are listed by their rules, those with the least cost are kept, and each choice keeps those that agree with
 * it. Neither the program nor the Model works like this, so they can't share a mistake with it.
 */
public final class CanonicalTests extends DifferCalls {
    private static final Checks checks = new Checks("CanonicalTests");
    private static final int NOBODY = -1;
    private static final int LARGER_PAIRS = 8000;
    private static long state = 20_261_120;

    /** A tree by the numbers of its nodes in preorder. */
    private static final class Small {
        final int[] parents;
        final char[] labels;
        final int[] keys;
        final int[] values;

        Small(int[] parents) {
            this.parents = parents.clone();
            labels = new char[parents.length];
            Arrays.fill(labels, 'a');
            keys = new int[parents.length];
            values = new int[parents.length];
        }

        Small(Small other) {
            parents = other.parents.clone();
            labels = other.labels.clone();
            keys = other.keys.clone();
            values = other.values.clone();
        }

        int size() {
            return parents.length;
        }

        List<Integer> kids(int node) {
            List<Integer> kids = new ArrayList<>();
            for (int kid = node + 1; kid < size(); kid++) {
                if (parents[kid] == node) {
                    kids.add(kid);
                }
            }
            return kids;
        }

        int width(int node) {
            int width = 1;
            for (int kid : kids(node)) {
                width += width(kid);
            }
            return width;
        }

        String text(int node) {
            StringBuilder text = new StringBuilder().append(labels[node]);
            text.append(keys[node] == 0 ? "" : "#" + keys[node]);
            text.append(values[node] == 0 ? "" : "=" + values[node]);
            List<Integer> kids = kids(node);
            text.append(kids.isEmpty() ? "" : "(");
            for (int kid : kids) {
                text.append(text(kid));
            }
            return text.append(kids.isEmpty() ? "" : ")").toString();
        }

        boolean hasKeysOfItsOwn() {
            for (int node = 1; node < size(); node++) {
                for (int other = 1; other < node; other++) {
                    if (parents[node] == parents[other] && keys[node] != 0 && keys[node] == keys[other]) {
                        return false;
                    }
                }
            }
            return true;
        }
    }

    /** What the document says of the script from one tree to another one. */
    private static final class Words {
        private final Small first;
        private final Small second;
        /** The matchings with the least cost that agree with all choices made so far; each has the partners. */
        private List<int[]> agreeing = new ArrayList<>();
        int distance = Integer.MAX_VALUE;
        /** Kind, node of the first tree, node of the second tree. */
        private final List<int[]> operations = new ArrayList<>();

        Words(Small first, Small second) {
            this.first = first;
            this.second = second;
            int[] partners = new int[first.size()];
            partners[0] = 0;
            listFrom(1, partners);
            describe(0, 0);
            recognizeMoves();
        }

        private void listFrom(int node, int[] partners) {
            if (node == first.size()) {
                keepIfLeast(partners.clone());
                return;
            }
            for (int other = NOBODY; other < second.size(); other++) {
                partners[node] = other;
                if (other == NOBODY || mayBePair(node, other, partners)) {
                    listFrom(node + 1, partners);
                }
            }
        }

        private boolean mayBePair(int node, int other, int[] partners) {
            if (other == 0 || first.keys[node] != second.keys[other]
                    || partners[first.parents[node]] != second.parents[other]) {
                return false;
            }
            for (int before = 1; before < node; before++) {
                boolean siblings = first.parents[before] == first.parents[node];
                if (partners[before] == other || siblings && partners[before] > other) {
                    return false;
                }
            }
            return true;
        }

        private void keepIfLeast(int[] partners) {
            int cost = costOf(partners);
            if (cost < distance) {
                distance = cost;
                agreeing.clear();
            }
            if (cost == distance) {
                agreeing.add(partners);
            }
        }

        private int costOf(int[] partners) {
            int cost = 0;
            int pairs = 0;
            for (int node = 0; node < first.size(); node++) {
                int other = partners[node];
                if (other != NOBODY) {
                    pairs++;
                    cost += first.labels[node] != second.labels[other] ? 3 : 0;
                    cost += first.values[node] != second.values[other] ? 1 : 0;
                }
            }
            return cost + 2 * (first.size() - pairs) + 2 * (second.size() - pairs);
        }

        /** Makes the choices for a pair, and adds its operations. */
        private void describe(int node, int other) {
            if (first.labels[node] != second.labels[other]) {
                add('l', node, other);
            }
            if (first.values[node] != second.values[other]) {
                add('v', node, other);
            }
            List<Integer> kids = first.kids(node);
            List<Integer> others = second.kids(other);
            while (!kids.isEmpty() && !others.isEmpty()) {
                int kid = kids.get(0);
                int otherKid = others.get(0);
                if (keepPartner(kid, otherKid)) {
                    describe(kid, otherKid);
                    kids.remove(0);
                    others.remove(0);
                } else if (keepPartner(kid, NOBODY)) {
                    add('d', kid, NOBODY);
                    kids.remove(0);
                } else {
                    agreeing.removeIf(partners -> hasPartner(partners, otherKid));
                    add('i', NOBODY, otherKid);
                    others.remove(0);
                }
            }
            for (int kid : kids) {
                add('d', kid, NOBODY);
            }
            for (int otherKid : others) {
                add('i', NOBODY, otherKid);
            }
        }

        /** Keeps the matchings in which a node has this partner, if there are some. */
        private boolean keepPartner(int node, int partner) {
            List<int[]> kept = new ArrayList<>(agreeing);
            kept.removeIf(partners -> partners[node] != partner);
            if (kept.isEmpty()) {
                return false;
            }
            agreeing = kept;
            return true;
        }

        private static boolean hasPartner(int[] partners, int wanted) {
            return Arrays.stream(partners).anyMatch(partner -> partner == wanted);
        }

        private void add(char kind, int node, int other) {
            operations.add(new int[] {kind, node, other});
        }

        private void recognizeMoves() {
            for (int[] deletion : new ArrayList<>(operations)) {
                for (int[] insertion : operations) {
                    if (deletion[0] == 'd' && insertion[0] == 'i'
                            && first.text(deletion[1]).equals(second.text(insertion[2]))) {
                        insertion[0] = 'm';
                        insertion[1] = deletion[1];
                        operations.remove(deletion);
                        break;
                    }
                }
            }
        }

        String script() {
            StringBuilder script = new StringBuilder();
            for (int[] operation : operations) {
                script.append((char) operation[0]).append(operation[0] == 'i' ? operation[2] : operation[1]);
            }
            return script.toString();
        }

        String targets() {
            StringBuilder targets = new StringBuilder();
            for (int[] operation : operations) {
                targets.append(operation[2]).append(' ');
            }
            return targets.toString();
        }

        int cost() {
            int cost = 0;
            for (int[] operation : operations) {
                cost += switch (operation[0]) {
                    case 'l' -> 3;
                    case 'v', 'm' -> 1;
                    case 'd' -> 2 * first.width(operation[1]);
                    default -> 2 * second.width(operation[2]);
                };
            }
            return cost;
        }

        /** All matchings that are left are the canonical one. */
        String partners() {
            return agreeing.size() + Arrays.toString(agreeing.get(0));
        }
    }

    public static void main(String[] args) {
        allPairsOfTreesOfFourNodes();
        pairsOfTreesOfSevenNodes();
        checks.close();
    }

    // ---- trees

    /** Every tree of up to four nodes below a root 'a', with labels a and b and keys 0 and 1. */
    private static void allPairsOfTreesOfFourNodes() {
        List<Small> trees = new ArrayList<>();
        for (int size = 1; size <= 4; size++) {
            int[] parents = new int[size];
            parents[0] = NOBODY;
            addShapes(trees, parents, 1);
        }
        for (Small first : trees) {
            for (Small second : trees) {
                compare(first, second);
            }
        }
    }

    /** In preorder, a node's parent is the node before it or one above that. */
    private static void addShapes(List<Small> trees, int[] parents, int node) {
        if (node == parents.length) {
            addFillings(trees, new Small(parents), 1);
            return;
        }
        for (int parent = node - 1; parent != NOBODY; parent = parents[parent]) {
            parents[node] = parent;
            addShapes(trees, parents, node + 1);
        }
    }

    private static void addFillings(List<Small> trees, Small tree, int node) {
        if (node == tree.size()) {
            if (tree.hasKeysOfItsOwn()) {
                trees.add(new Small(tree));
            }
            return;
        }
        for (int filling = 0; filling < 4; filling++) {
            tree.labels[node] = (char) ('a' + filling % 2);
            tree.keys[node] = filling / 2;
            addFillings(trees, tree, node + 1);
        }
    }

    /** Larger trees, that differ in values too; the numbers are the same in each run of the tests. */
    private static void pairsOfTreesOfSevenNodes() {
        for (int pair = 0; pair < LARGER_PAIRS; pair++) {
            int keys = 1 + below(3);
            int values = 1 + below(2);
            compare(larger(keys, values), larger(keys, values));
        }
    }

    private static Small larger(int keys, int values) {
        int[] parents = new int[4 + below(4)];
        parents[0] = NOBODY;
        for (int node = 1; node < parents.length; node++) {
            parents[node] = node - 1;
            while (parents[node] > 0 && below(3) > 0) {
                parents[node] = parents[parents[node]];
            }
        }
        Small tree = new Small(parents);
        for (int node = 0; node < tree.size(); node++) {
            tree.labels[node] = (char) ('a' + below(2));
            tree.values[node] = below(values);
            tree.keys[node] = node == 0 ? 0 : below(keys);
            if (!tree.hasKeysOfItsOwn()) {
                tree.keys[node] = 0;
            }
        }
        return tree;
    }

    private static int below(int bound) {
        state = state * 6364136223846793005L + 1442695040888963407L;
        return (int) ((state >>> 33) % bound);
    }

    // ---- the program's answers

    private static void compare(Small first, Small second) {
        Words words = new Words(first, second);
        String trees = " of " + first.text(0) + " and " + second.text(0);
        TreeDiffer x = with(first.text(0), second.text(0));
        checks.due("25 distance" + trees, words.distance, () -> x.distance(0, 1));
        checks.due("26 distance" + trees, words.distance, () -> x.distanceByMatchings(0, 1));
        x.diff(0, 1);
        checks.due("28 script" + trees, words.script(), () -> script(x));
        checks.due("32 targets" + trees, words.targets(), () -> targets(x));
        checks.due("33 partners" + trees, words.partners(), () -> "1" + partners(x, first.size()));
        checks.due("35 cost" + trees, words.cost(), x::scriptCost);
        checks.due("36 target" + trees, true, x::givesTarget);
    }

    private static String targets(TreeDiffer x) {
        StringBuilder targets = new StringBuilder();
        for (int operation = 0; operation < x.operations(); operation++) {
            targets.append(x.opKind(operation) == 'd' ? NOBODY : x.opTarget(operation)).append(' ');
        }
        return targets.toString();
    }

    private static String partners(TreeDiffer x, int size) {
        int[] partners = new int[size];
        for (int node = 0; node < size; node++) {
            int asked = node;
            String answer = Checks.answerOf(() -> x.partner(asked));
            partners[node] = answer.equals("throws.NoSuchElementException") ? NOBODY : Integer.parseInt(answer);
        }
        return Arrays.toString(partners);
    }
}
