import java.math.BigInteger;
import java.util.ArrayList;
import java.util.Comparator;
import java.util.HashMap;
import java.util.HashSet;
import java.util.List;
import java.util.Map;
import java.util.NoSuchElementException;
import java.util.Set;
import java.util.TreeMap;
import java.util.TreeSet;

/**
 * The document once more, as literally and as plainly as can be, without regard to time and room:
 * trees of nodes, lists that are searched from the front, all PROGRAMS counted by SIZE.
 * ModelTest asks it and PartMaker the same.
 */
final class Model {
    private static final BigInteger MOST_TIES = BigInteger.valueOf(1_000_000_000);
    private static final String[] BETWEEN = {"+", "-", "*", ",", ",", "", "/", "%", "", ""};
    private static final String[] OPENING = {"(", "(", "(", "min(", "max(", "-(", "(", "(", "abs(", "sgn("};

    private int many = 1;
    private int budget = 5000;
    private final List<int[]> examples = new ArrayList<>();
    private final TreeSet<Integer> constants = new TreeSet<>(List.of(0, 1));
    private final TreeSet<Integer> parts = new TreeSet<>(List.of(0, 1, 2, 3, 4, 5));
    private Grown expressions = new Grown();
    private Grown tests = new Grown();
    private Tree solved;
    private int solvedIfs;
    private String written = "";

    /** An EXPRESSION or a TEST. */
    private static final class Node {
        final String sign;
        final int part;
        final int constant;
        final Node first;
        final Node second;
        final int size;

        Node(String sign, int part, int constant, Node first, Node second) {
            this.sign = sign;
            this.part = part;
            this.constant = constant;
            this.first = first;
            this.second = second;
            this.size = 1 + (first == null ? 0 : first.size) + (second == null ? 0 : second.size);
        }

        int at(int... inputs) {
            switch (sign) {
                case "input":
                    return inputs[constant];
                case "constant":
                    return constant;
                case "part":
                    return join(part, first.at(inputs), second == null ? 0 : second.at(inputs));
                case "<":
                    return first.at(inputs) < second.at(inputs) ? 1 : 0;
                case "=":
                    return first.at(inputs) == second.at(inputs) ? 1 : 0;
                case "!":
                    return first.at(inputs) == 1 ? 0 : 1;
                default:
                    return first.at(inputs) == 1 && second.at(inputs) == 1 ? 1 : 0;
            }
        }

        String text() {
            switch (sign) {
                case "input":
                    return "xyz".substring(constant, constant + 1);
                case "constant":
                    return "" + constant;
                case "part":
                    return OPENING[part] + first.text()
                            + (second == null ? "" : BETWEEN[part] + second.text()) + ")";
                case "!":
                    return "!(" + first.text() + ")";
                default:
                    return "(" + first.text() + sign + second.text() + ")";
            }
        }

        int uses(int wantedPart) {
            return (sign.equals("part") && part == wantedPart ? 1 : 0)
                    + (first == null ? 0 : first.uses(wantedPart))
                    + (second == null ? 0 : second.uses(wantedPart));
        }
    }

    /** One GROWTH. */
    private static final class Grown {
        final List<Node> kept = new ArrayList<>();
        final List<List<Integer>> outputs = new ArrayList<>();
        final List<List<Node>> mergedWith = new ArrayList<>();
        int merged;
        int idle;
        int made;
        int level;
        boolean full;

        Grown copy() {
            Grown copy = new Grown();
            copy.kept.addAll(kept);
            copy.outputs.addAll(outputs);
            for (List<Node> some : mergedWith) {
                copy.mergedWith.add(new ArrayList<>(some));
            }
            copy.merged = merged;
            copy.idle = idle;
            copy.made = made;
            copy.level = level;
            copy.full = full;
            return copy;
        }

        List<Integer> ofSize(int size) {
            List<Integer> numbers = new ArrayList<>();
            for (int k = 0; k < kept.size(); k++) {
                if (kept.get(k).size == size) {
                    numbers.add(k);
                }
            }
            return numbers;
        }
    }

    /** A PROGRAM: test NONE for an EXPRESSION alone. */
    private static final class Tree {
        int size;
        int test = -1;
        int expression = -1;
        Tree then;
        Tree otherwise;

        int ifs() {
            return test < 0 ? 0 : 1 + then.ifs() + otherwise.ifs();
        }

        int depth() {
            return test < 0 ? 0 : 1 + Math.max(then.depth(), otherwise.depth());
        }

        void leaves(Set<Integer> into) {
            if (test < 0) {
                into.add(expression);
            } else {
                then.leaves(into);
                otherwise.leaves(into);
            }
        }

        String shape() {
            return test < 0 ? "e" + expression : "[t" + test + then.shape() + otherwise.shape() + "]";
        }
    }

    private static final class Stopped extends Exception {
        private static final long serialVersionUID = 1L;
        final int why;

        Stopped(int why) {
            this.why = why;
        }
    }

    private static boolean unary(int part) {
        return part == 5 || part == 8 || part == 9;
    }

    private static int join(int part, int a, int b) {
        switch (part) {
            case 0:
                return a + b;
            case 1:
                return a - b;
            case 2:
                return a * b;
            case 3:
                return Math.min(a, b);
            case 4:
                return Math.max(a, b);
            case 5:
                return -a;
            case 6:
                return b == 0 ? 0 : a / b;
            case 7:
                return b == 0 ? 0 : a % b;
            case 8:
                return Math.abs(a);
            default:
                return Integer.signum(a);
        }
    }

    private void go() {
        expressions = new Grown();
        tests = new Grown();
        solved = null;
    }

    private static void argument(boolean fine) {
        if (!fine) {
            throw new IllegalArgumentException();
        }
    }

    private static void state(boolean fine) {
        if (!fine) {
            throw new IllegalStateException();
        }
    }

    private static void element(boolean fine) {
        if (!fine) {
            throw new NoSuchElementException();
        }
    }

    private boolean inputsFine(int x, int y, int z) {
        boolean inRange = true;
        for (int v : new int[] {x, y, z}) {
            inRange = inRange && v >= -99 && v <= 99;
        }
        return inRange && (many >= 2 || y == 0) && (many >= 3 || z == 0);
    }

    private boolean isExample(int e) {
        return e >= 0 && e < examples.size();
    }

    private Grown grownOf(boolean ofTests) {
        return ofTests ? tests : expressions;
    }

    private boolean isKept(boolean ofTests, int k) {
        return k >= 0 && k < grownOf(ofTests).kept.size();
    }

    private int all() {
        return (1 << examples.size()) - 1;
    }

    int many(int inputs) {
        argument(inputs >= 1 && inputs <= 3);
        int gone = examples.size();
        many = inputs;
        examples.clear();
        go();
        return gone;
    }

    int example(int x, int y, int z, int wanted) {
        argument(inputsFine(x, y, z) && wanted >= -999 && wanted <= 999);
        state(examples.size() < 12);
        for (int[] e : examples) {
            state(e[0] != x || e[1] != y || e[2] != z);
        }
        examples.add(new int[] {x, y, z, wanted});
        go();
        return examples.size() - 1;
    }

    int drop(int example) {
        element(isExample(example));
        examples.remove(example);
        go();
        return examples.size();
    }

    boolean part(int part, boolean may) {
        argument(part >= 0 && part <= 9);
        go();
        return may ? parts.add(part) : parts.remove(part);
    }

    boolean constant(int v) {
        argument(v >= -99 && v <= 99);
        state(constants.contains(v) || constants.size() < 10);
        go();
        return constants.add(v);
    }

    int constants() {
        int came = 0;
        for (int[] e : examples) {
            for (int v : new int[] {e[3], e[3] - e[0]}) {
                if (v >= -99 && v <= 99 && constants.size() < 10 && constants.add(v)) {
                    came++;
                }
            }
        }
        go();
        return came;
    }

    int budget(int n) {
        argument(n >= 1 && n <= 20000);
        int was = budget;
        budget = n;
        return was;
    }

    int grow(boolean ofTests) {
        return growUpTo(ofTests, budget);
    }

    private int growUpTo(boolean ofTests, int room) {
        Grown grown = grownOf(ofTests);
        if (examples.isEmpty()) {
            return 3;
        }
        if (grown.full) {
            return 1;
        }
        if (grown.level == (ofTests ? 7 : 9)) {
            return 3;
        }
        Grown before = grown.copy();
        try {
            int stop = grown.made + room;
            if (ofTests) {
                makeTests(grown.level == 0 ? 3 : grown.level + 1, stop);
            } else {
                makeExpressions(grown.level + 1, stop);
            }
        } catch (Stopped stopped) {
            if (stopped.why == 1) {
                grown.full = true;
            } else if (ofTests) {
                tests = before;
            } else {
                expressions = before;
            }
            return stopped.why;
        }
        grown.level = ofTests && grown.level == 0 ? 3 : grown.level + 1;
        return 0;
    }

    private void makeExpressions(int size, int stop) throws Stopped {
        if (size == 1) {
            for (int i = 0; i < many; i++) {
                made(false, new Node("input", 0, i, null, null), stop);
            }
            for (int c : constants) {
                made(false, new Node("constant", 0, c, null, null), stop);
            }
            return;
        }
        for (int part : parts) {
            if (unary(part)) {
                for (int a : expressions.ofSize(size - 1)) {
                    made(false, new Node("part", part, 0, expressions.kept.get(a), null), stop);
                }
                continue;
            }
            for (int s = 1; s <= size - 2; s++) {
                for (int a : expressions.ofSize(s)) {
                    for (int b : expressions.ofSize(size - 1 - s)) {
                        boolean ordered = part == 0 || part == 2 || part == 3 || part == 4;
                        if (!ordered || b >= a) {
                            made(false, new Node("part", part, 0, expressions.kept.get(a),
                                    expressions.kept.get(b)), stop);
                        }
                    }
                }
            }
        }
    }

    private void makeTests(int size, int stop) throws Stopped {
        for (String sign : new String[] {"<", "="}) {
            for (int s = 1; s <= 2; s++) {
                for (int a : expressions.ofSize(s)) {
                    for (int t = 1; t <= 2; t++) {
                        for (int b : s + t + 1 == size ? expressions.ofSize(t) : List.<Integer>of()) {
                            if (sign.equals("<") || b > a) {
                                made(true, new Node(sign, 0, 0, expressions.kept.get(a),
                                        expressions.kept.get(b)), stop);
                            }
                        }
                    }
                }
            }
        }
        for (int a : tests.ofSize(size - 1)) {
            made(true, new Node("!", 0, 0, tests.kept.get(a), null), stop);
        }
        for (int s = 1; s <= size - 2; s++) {
            for (int a : tests.ofSize(s)) {
                for (int b : tests.ofSize(size - 1 - s)) {
                    if (b > a) {
                        made(true, new Node("&", 0, 0, tests.kept.get(a), tests.kept.get(b)), stop);
                    }
                }
            }
        }
    }

    private void made(boolean ofTests, Node node, int stop) throws Stopped {
        Grown grown = grownOf(ofTests);
        if (grown.made == stop) {
            throw new Stopped(2);
        }
        grown.made++;
        List<Integer> outputs = outputsOf(node);
        if (ofTests && new HashSet<>(outputs).size() == 1) {
            grown.idle++;
            return;
        }
        int same = grown.outputs.indexOf(outputs);
        if (same >= 0) {
            grown.merged++;
            grown.mergedWith.get(same).add(node);
            return;
        }
        if (grown.kept.size() == (ofTests ? 150 : 300)) {
            throw new Stopped(1);
        }
        grown.kept.add(node);
        grown.outputs.add(outputs);
        grown.mergedWith.add(new ArrayList<>());
    }

    private List<Integer> outputsOf(Node node) {
        List<Integer> outputs = new ArrayList<>();
        for (int[] e : examples) {
            outputs.add(node.at(e[0], e[1], e[2]));
        }
        return outputs;
    }

    int grown(boolean ofTests, int what) {
        element(what >= 0 && what <= 5);
        Grown g = grownOf(ofTests);
        return new int[] {g.kept.size(), g.merged, g.level, g.full ? 1 : 0, g.idle, g.made}[what];
    }

    int kept(boolean ofTests, int k, int what) {
        element(isKept(ofTests, k) && what >= 0 && what <= 2);
        Grown g = grownOf(ofTests);
        return new int[] {g.kept.get(k).size, g.mergedWith.get(k).size(), setOf(ofTests, k)}[what];
    }

    private int setOf(boolean ofTests, int k) {
        int set = 0;
        for (int e = 0; e < examples.size(); e++) {
            int due = ofTests ? 1 : examples.get(e)[3];
            if (grownOf(ofTests).outputs.get(k).get(e) == due) {
                set |= 1 << e;
            }
        }
        return set;
    }

    int output(boolean ofTests, int k, int example) {
        element(isKept(ofTests, k) && isExample(example));
        return grownOf(ofTests).outputs.get(k).get(example);
    }

    int value(boolean ofTests, int k, int x, int y, int z) {
        element(isKept(ofTests, k));
        argument(inputsFine(x, y, z));
        return grownOf(ofTests).kept.get(k).at(x, y, z);
    }

    int write(boolean ofTests, int k) {
        element(isKept(ofTests, k));
        written = grownOf(ofTests).kept.get(k).text();
        return written.length();
    }

    int octet(int k) {
        return k >= 0 && k < written.length() ? written.charAt(k) : -1;
    }

    int testOf(int set) {
        argument((set & ~all()) == 0);
        for (int k = 0; k < tests.kept.size(); k++) {
            if (setOf(true, k) == set) {
                return k;
            }
        }
        return -1;
    }

    int joins(int part, int first, int second) {
        argument(part >= 0 && part <= 9);
        element(isKept(false, first) && (unary(part) || isKept(false, second)));
        List<Integer> outputs = new ArrayList<>();
        for (int e = 0; e < examples.size(); e++) {
            int b = unary(part) ? 0 : expressions.outputs.get(second).get(e);
            outputs.add(join(part, expressions.outputs.get(first).get(e), b));
        }
        return expressions.outputs.indexOf(outputs);
    }

    int ofSize(boolean ofTests, int size) {
        return grownOf(ofTests).ofSize(size).size();
    }

    int unlike(boolean ofTests, int k, int other) {
        element(isKept(ofTests, k) && isKept(ofTests, other));
        int set = 0;
        for (int e = 0; e < examples.size(); e++) {
            if (output(ofTests, k, e) != output(ofTests, other, e)) {
                set += 1 << e;
            }
        }
        return set;
    }

    int uses(boolean ofTests, int k, int part) {
        element(isKept(ofTests, k));
        argument(part >= 0 && part <= 9);
        return grownOf(ofTests).kept.get(k).uses(part);
    }

    int far(int k) {
        element(isKept(false, k));
        long sum = 0;
        for (int e = 0; e < examples.size(); e++) {
            sum += Math.min(1_000_000L, Math.abs((long) output(false, k, e) - examples.get(e)[3]));
        }
        return (int) sum;
    }

    int nearest() {
        int best = -1;
        for (int k = 0; k < expressions.kept.size(); k++) {
            if (best < 0 || far(k) < far(best)) {
                best = k;
            }
        }
        return best;
    }

    int writeMerged(boolean ofTests, int k) {
        element(isKept(ofTests, k));
        List<Node> merged = grownOf(ofTests).mergedWith.get(k);
        if (merged.isEmpty()) {
            return -1;
        }
        written = merged.get(0).text();
        return written.length();
    }

    private List<int[]> points() {
        List<int[]> points = new ArrayList<>();
        for (int x = -9; x <= 9; x++) {
            for (int y = many < 2 ? 0 : -9; y <= (many < 2 ? 0 : 9); y++) {
                for (int z = many < 3 ? 0 : -9; z <= (many < 3 ? 0 : 9); z++) {
                    points.add(new int[] {x, y, z});
                }
            }
        }
        return points;
    }

    int mergedApart(boolean ofTests, int k, int input) {
        element(isKept(ofTests, k) && input >= 0 && input <= 2);
        List<Node> merged = grownOf(ofTests).mergedWith.get(k);
        if (!merged.isEmpty()) {
            for (int[] p : points()) {
                if (grownOf(ofTests).kept.get(k).at(p) != merged.get(0).at(p)) {
                    return p[input];
                }
            }
        }
        return -100;
    }

    int differs(boolean ofTests, int k, int other) {
        element(isKept(ofTests, k) && isKept(ofTests, other));
        int found = 0;
        for (int[] p : points()) {
            if (grownOf(ofTests).kept.get(k).at(p) != grownOf(ofTests).kept.get(other).at(p)) {
                found++;
            }
        }
        return found;
    }

    /** What would be SOLVED for a set; a PART of -1 is none that must not stand there. */
    private Tree best(int set, int ifs, int barred, Map<String, Tree> known) {
        String key = set + " " + ifs;
        if (known.containsKey(key)) {
            return known.get(key);
        }
        List<Tree> candidates = new ArrayList<>();
        for (int k = 0; k < expressions.kept.size(); k++) {
            boolean fits = (set & ~setOf(false, k)) == 0;
            if (fits && (barred < 0 || expressions.kept.get(k).uses(barred) == 0)) {
                Tree tree = new Tree();
                tree.expression = k;
                tree.size = expressions.kept.get(k).size;
                candidates.add(tree);
            }
        }
        for (int t = 0; ifs > 0 && t < tests.kept.size(); t++) {
            int yes = set & setOf(true, t);
            int no = set & ~setOf(true, t);
            if (yes == 0 || no == 0 || barred >= 0 && tests.kept.get(t).uses(barred) > 0) {
                continue;
            }
            Tree then = best(yes, ifs - 1, barred, known);
            Tree otherwise = then == null ? null : best(no, ifs - 1, barred, known);
            if (otherwise != null) {
                Tree tree = new Tree();
                tree.test = t;
                tree.then = then;
                tree.otherwise = otherwise;
                tree.size = tests.kept.get(t).size + then.size + otherwise.size + 1;
                candidates.add(tree);
            }
        }
        // sorting is stable: EXPRESSIONS stand ahead of ifs here, and both by their numbers
        candidates.sort(Comparator.comparingInt(tree -> tree.size));
        Tree found = candidates.isEmpty() ? null : candidates.get(0);
        known.put(key, found);
        return found;
    }

    int solve(int ifs) {
        argument(ifs >= 0 && ifs <= 3);
        state(!examples.isEmpty());
        solved = best(all(), ifs, -1, new HashMap<>());
        solvedIfs = ifs;
        return solved == null ? -1 : solved.size;
    }

    int make(int ifs) {
        int size = solve(ifs);
        int left = budget;
        boolean[] more = {true, ifs > 0};
        while (size == -1 && (more[0] || more[1])) {
            for (int turn = 0; turn < 2 && size == -1; turn++) {
                if (!more[turn]) {
                    continue;
                }
                int before = grown(turn == 1, 5);
                int came = growUpTo(turn == 1, left);
                if (came == 2) {
                    return -2;
                }
                left -= grown(turn == 1, 5) - before;
                more[turn] = came == 0;
                size = solve(ifs);
            }
        }
        return size;
    }

    int solved(int what) {
        state(solved != null);
        element(what >= 0 && what <= 5);
        Set<Integer> leaves = new HashSet<>();
        solved.leaves(leaves);
        return new int[] {solved.size, solved.ifs(), solved.depth(), leaves.size(), solved.test,
            solved.expression}[what];
    }

    private int treeAt(Tree tree, int... p) {
        if (tree.test < 0) {
            return expressions.kept.get(tree.expression).at(p);
        }
        return treeAt(tests.kept.get(tree.test).at(p) == 1 ? tree.then : tree.otherwise, p);
    }

    int comes(int x, int y, int z) {
        state(solved != null);
        argument(inputsFine(x, y, z));
        return treeAt(solved, x, y, z);
    }

    private String treeText(Tree tree) {
        if (tree.test < 0) {
            return expressions.kept.get(tree.expression).text();
        }
        return "[" + tests.kept.get(tree.test).text() + "?" + treeText(tree.then) + ":"
                + treeText(tree.otherwise) + "]";
    }

    int writeSolved() {
        state(solved != null);
        written = treeText(solved);
        return written.length();
    }

    int leaf(int example) {
        state(solved != null);
        element(isExample(example));
        Tree tree = solved;
        while (tree.test >= 0) {
            tree = output(true, tree.test, example) == 1 ? tree.then : tree.otherwise;
        }
        return tree.expression;
    }

    int apart(int k, int input) {
        state(solved != null);
        element(isKept(false, k) && input >= 0 && input <= 2);
        for (int[] p : points()) {
            if (treeAt(solved, p) != expressions.kept.get(k).at(p)) {
                return p[input];
            }
        }
        return -100;
    }

    int without(int part, int ifs) {
        argument(part >= 0 && part <= 9 && ifs >= 0 && ifs <= 3);
        state(!examples.isEmpty());
        Tree tree = best(all(), ifs, part, new HashMap<>());
        return tree == null ? -1 : tree.size;
    }

    /** How many PROGRAMS of each SIZE up to one FIT a set. */
    private TreeMap<Integer, BigInteger> allBySize(int set, int ifs, int upTo,
            Map<String, TreeMap<Integer, BigInteger>> known) {
        String key = set + " " + ifs;
        if (known.containsKey(key)) {
            return known.get(key);
        }
        TreeMap<Integer, BigInteger> found = new TreeMap<>();
        for (int k = 0; k < expressions.kept.size(); k++) {
            int size = expressions.kept.get(k).size;
            if ((set & ~setOf(false, k)) == 0 && size <= upTo) {
                found.merge(size, BigInteger.ONE, BigInteger::add);
            }
        }
        for (int t = 0; ifs > 0 && t < tests.kept.size(); t++) {
            int yes = set & setOf(true, t);
            if (yes == 0 || yes == set) {
                continue;
            }
            for (Map.Entry<Integer, BigInteger> a : allBySize(yes, ifs - 1, upTo, known).entrySet()) {
                for (Map.Entry<Integer, BigInteger> b
                        : allBySize(set & ~yes, ifs - 1, upTo, known).entrySet()) {
                    int size = tests.kept.get(t).size + 1 + a.getKey() + b.getKey();
                    if (size <= upTo) {
                        found.merge(size, a.getValue().multiply(b.getValue()), BigInteger::add);
                    }
                }
            }
        }
        known.put(key, found);
        return found;
    }

    int ties(int ifs) {
        argument(ifs >= 0 && ifs <= 3);
        state(!examples.isEmpty());
        Tree tree = best(all(), ifs, -1, new HashMap<>());
        if (tree == null) {
            return 0;
        }
        TreeMap<Integer, BigInteger> found = allBySize(all(), ifs, tree.size, new HashMap<>());
        return found.firstEntry().getValue().min(MOST_TIES).intValue();
    }

    int needed() {
        state(!examples.isEmpty());
        for (int ifs = 0; ifs <= 3; ifs++) {
            if (best(all(), ifs, -1, new HashMap<>()) != null) {
                return ifs;
            }
        }
        return -1;
    }

    private int treeUses(Tree tree, int part) {
        if (tree.test < 0) {
            return expressions.kept.get(tree.expression).uses(part);
        }
        return tests.kept.get(tree.test).uses(part) + treeUses(tree.then, part)
                + treeUses(tree.otherwise, part);
    }

    int solvedUses(int part) {
        state(solved != null);
        argument(part >= 0 && part <= 9);
        return treeUses(solved, part);
    }

    int way(int x, int y, int z, int k) {
        state(solved != null);
        argument(inputsFine(x, y, z));
        List<Integer> asked = new ArrayList<>();
        Tree tree = solved;
        while (tree.test >= 0) {
            int answer = tests.kept.get(tree.test).at(x, y, z);
            asked.add(tree.test * 2 + answer);
            tree = answer == 1 ? tree.then : tree.otherwise;
        }
        return k >= 0 && k < asked.size() ? asked.get(k) : -1;
    }

    boolean isIdle(int example) {
        state(solved != null);
        element(isExample(example));
        int others = all() & ~(1 << example);
        if (others == 0) {
            return false;
        }
        Tree tree = best(others, solvedIfs, -1, new HashMap<>());
        return tree != null && tree.shape().equals(solved.shape());
    }

    int fits(int set, int what) {
        argument(set != 0 && (set & ~all()) == 0);
        element(what == 0 || what == 1);
        for (int k = 0; k < expressions.kept.size(); k++) {
            if ((setOf(false, k) & set) == set) {
                return what == 0 ? expressions.kept.get(k).size : k;
            }
        }
        return -1;
    }

    int fewest() {
        Set<Integer> reached = new HashSet<>(List.of(0));
        for (int n = 0; n <= 12; n++) {
            if (reached.contains(all())) {
                return n;
            }
            Set<Integer> next = new HashSet<>();
            for (int set : reached) {
                for (int k = 0; k < expressions.kept.size(); k++) {
                    next.add(set | setOf(false, k));
                }
            }
            reached = next;
        }
        return -1;
    }

    int splits(int ones, int noughts) {
        argument(ones != 0 && noughts != 0 && (ones & noughts) == 0);
        argument((ones & ~all()) == 0 && (noughts & ~all()) == 0);
        for (int k = 0; k < tests.kept.size(); k++) {
            if ((setOf(true, k) & (ones | noughts)) == ones) {
                return k;
            }
        }
        return -1;
    }

    int count(int what) {
        int bits = 0;
        for (int part : parts) {
            bits += 1 << part;
        }
        int[] counts = {many, examples.size(), constants.size(), bits, budget, written.length(),
            solved == null ? 0 : 1};
        return what >= 0 && what <= 6 ? counts[what] : -1;
    }

    int told(int example, int what) {
        element(isExample(example) && what >= 0 && what <= 3);
        return examples.get(example)[what];
    }

    int constantAt(int k) {
        element(k >= 0 && k < constants.size());
        return new ArrayList<>(constants).get(k);
    }
}
