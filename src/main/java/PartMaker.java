import java.util.Arrays;
import java.util.NoSuchElementException;

/**
 * A maker of small programs from examples. Words in capitals are those of the document's Terms.
 * Whatever a call needs is held in rows that the constructor makes, so that no call makes anything.
 */
public final class PartMaker {
    public static final int NONE = -1;

    private static final int MOST_IFS = 3;
    private static final int MOST_BUDGET = 20000;
    private static final int OUT_OF_BUDGET = -2;
    private static final int NOT_APART = -100;

    /** Far above what make() can need: EXPRESSIONS have 9 SIZES, TESTS 5, and both take turns. */
    private static final int MOST_TURNS = 64;

    private final Examples examples = new Examples();
    private final Supply supply = new Supply();
    private final Expressions grownExpressions = new Expressions(examples, supply);
    private final Tests grownTests = new Tests(examples, grownExpressions);
    private final Solver solver = new Solver(examples, grownExpressions, grownTests);
    private final Program program = new Program(grownExpressions, grownTests);
    private final Program rival = new Program(grownExpressions, grownTests);
    private final Point point = new Point();
    private final Text text = new Text();
    private int allowance = 5000;

    public PartMaker() {
    }

    public int many(int inputs) throws IllegalArgumentException {
        if (inputs < 1 || inputs > Point.INPUTS) {
            throw new IllegalArgumentException("MANY is 1 to 3");
        }
        int gone = examples.size;
        examples.size = 0;
        examples.many = inputs;
        forgetAllMade();
        return gone;
    }

    public int example(int x, int y, int z, int wanted)
            throws IllegalArgumentException, IllegalStateException {
        refuseNoInputs(x, y, z);
        if (wanted < -Examples.WIDEST_WANTED || wanted > Examples.WIDEST_WANTED) {
            throw new IllegalArgumentException("WANTED is -999 to 999");
        }
        if (examples.size >= Examples.MOST || examples.areThere(x, y, z)) {
            throw new IllegalStateException("12 EXAMPLES, or the same INPUTS, are there");
        }
        int number = examples.add(x, y, z, wanted);
        forgetAllMade();
        return number;
    }

    public int drop(int example) throws NoSuchElementException {
        refuseNoExample(example);
        examples.remove(example);
        forgetAllMade();
        return examples.size;
    }

    public boolean part(int part, boolean may) throws IllegalArgumentException {
        refuseNoPart(part);
        boolean isNew = supply.mayUse(part) != may;
        supply.parts = may ? supply.parts | 1 << part : supply.parts & ~(1 << part);
        forgetAllMade();
        return isNew;
    }

    public boolean constant(int v) throws IllegalArgumentException, IllegalStateException {
        if (Supply.isNoConstant(v)) {
            throw new IllegalArgumentException("CONSTANTS are -99 to 99");
        }
        boolean isNew = !supply.hasConstant(v);
        if (isNew && supply.isFull()) {
            throw new IllegalStateException("8 CONSTANTS besides 0 and 1 are there");
        }
        if (isNew) {
            supply.addConstant(v);
        }
        forgetAllMade();
        return isNew;
    }

    public int constants() {
        int before = supply.constantCount;
        for (int e = 0; e < examples.size; e++) {
            int wanted = examples.rows[Examples.WANTED][e];
            supply.offerConstant(wanted);
            supply.offerConstant(wanted - examples.rows[0][e]);
        }
        forgetAllMade();
        return supply.constantCount - before;
    }

    public int budget(int n) throws IllegalArgumentException {
        if (n < 1 || n > MOST_BUDGET) {
            throw new IllegalArgumentException("BUDGET is 1 to 20,000");
        }
        int before = allowance;
        allowance = n;
        return before;
    }

    // ---- growth

    public int grow(boolean tests) {
        return growthOf(tests).advance(allowance);
    }

    public int grown(boolean tests, int what) throws NoSuchElementException {
        Growth growth = growthOf(tests);
        switch (what) {
            case 0:
                return growth.keptCount;
            case 1:
                return growth.mergedCount;
            case 2:
                return growth.level;
            case 3:
                return growth.isFull ? 1 : 0;
            case 4:
                return growth.idleCount;
            case 5:
                return growth.madeCount;
            default:
                throw new NoSuchElementException("what is 0 to 5");
        }
    }

    public int kept(boolean tests, int k, int what) throws NoSuchElementException {
        Growth growth = growthWith(tests, k);
        switch (what) {
            case 0:
                return growth.sizes[k];
            case 1:
                return growth.mergedWith[k];
            case 2:
                return growth.sets[k];
            default:
                throw new NoSuchElementException("what is 0 to 2");
        }
    }

    public int output(boolean tests, int k, int example) throws NoSuchElementException {
        Growth growth = growthWith(tests, k);
        refuseNoExample(example);
        return growth.outputOn(k, example);
    }

    public int value(boolean tests, int k, int x, int y, int z)
            throws NoSuchElementException, IllegalArgumentException {
        Growth growth = growthWith(tests, k);
        refuseNoInputs(x, y, z);
        point.put(x, y, z);
        return growth.comesTo(k, point.inputs);
    }

    public int write(boolean tests, int k) throws NoSuchElementException {
        Growth growth = growthWith(tests, k);
        text.clear();
        growth.spellKept(text, k);
        return text.length;
    }

    public int octet(int k) {
        return k < 0 || k >= text.length ? NONE : text.bytes[k];
    }

    public int testOf(int set) throws IllegalArgumentException {
        refuseStrangers(set);
        return grownTests.numbers[set];
    }

    public int joins(int part, int first, int second)
            throws IllegalArgumentException, NoSuchElementException {
        refuseNoPart(part);
        refuseNotKept(false, first);
        if (!Parts.isOfOne(part)) {
            refuseNotKept(false, second);
        }
        grownExpressions.reckon(part, first, Parts.isOfOne(part) ? first : second);
        return grownExpressions.holder();
    }

    public int ofSize(boolean tests, int size) {
        Growth growth = growthOf(tests);
        int found = 0;
        for (int k = 0; k < growth.keptCount; k++) {
            if (growth.sizes[k] == size) {
                found++;
            }
        }
        return found;
    }

    public int unlike(boolean tests, int k, int other) throws NoSuchElementException {
        Growth growth = growthWith(tests, k);
        refuseNotKept(tests, other);
        int set = 0;
        for (int e = 0; e < examples.size; e++) {
            if (growth.outputOn(k, e) != growth.outputOn(other, e)) {
                set |= 1 << e;
            }
        }
        return set;
    }

    public int uses(boolean tests, int k, int part)
            throws NoSuchElementException, IllegalArgumentException {
        Growth growth = growthWith(tests, k);
        refuseNoPart(part);
        return growth.partsIn(k, part);
    }

    public int far(int k) throws NoSuchElementException {
        refuseNotKept(false, k);
        return grownExpressions.farness(k);
    }

    public int nearest() {
        int best = NONE;
        int bestFar = 0;
        for (int k = 0; k < grownExpressions.keptCount; k++) {
            int distance = grownExpressions.farness(k);
            if (best == NONE || distance < bestFar) {
                bestFar = distance;
                best = k;
            }
        }
        return best;
    }

    public int writeMerged(boolean tests, int k) throws NoSuchElementException {
        Growth growth = growthWith(tests, k);
        if (growth.mergedWith[k] == 0) {
            return NONE;
        }
        text.clear();
        growth.spellFirstMerged(text, k);
        return text.length;
    }

    public int mergedApart(boolean tests, int k, int input) throws NoSuchElementException {
        Growth growth = growthWith(tests, k);
        refuseNoInputNumber(input);
        if (growth.mergedWith[k] == 0) {
            return NOT_APART;
        }
        int points = point.start(examples.many);
        for (int p = 0; p < points; p++) {
            if (growth.comesTo(k, point.inputs) != growth.firstMergedComesTo(k, point.inputs)) {
                return point.inputs[input];
            }
            point.step(examples.many);
        }
        return NOT_APART;
    }

    public int differs(boolean tests, int k, int other) throws NoSuchElementException {
        Growth growth = growthWith(tests, k);
        refuseNotKept(tests, other);
        int found = 0;
        int points = point.start(examples.many);
        for (int p = 0; p < points; p++) {
            if (growth.comesTo(k, point.inputs) != growth.comesTo(other, point.inputs)) {
                found++;
            }
            point.step(examples.many);
        }
        return found;
    }

    // ---- programs

    public int solve(int ifs) throws IllegalArgumentException, IllegalStateException {
        refuseNoIfs(ifs);
        refuseNoExamples();
        return settle(ifs);
    }

    public int make(int ifs) throws IllegalArgumentException, IllegalStateException {
        refuseNoIfs(ifs);
        refuseNoExamples();
        int size = settle(ifs);
        int left = allowance;
        boolean moreExpressions = true;
        boolean moreTests = ifs > 0;
        for (int turn = 0; turn < MOST_TURNS && size == NONE && (moreExpressions || moreTests); turn++) {
            boolean tests = turn % 2 == 1;
            if (tests ? !moreTests : !moreExpressions) {
                continue;
            }
            Growth growth = growthOf(tests);
            int madeBefore = growth.madeCount;
            int came = growth.advance(left);
            if (came == Growth.BUDGET) {
                return OUT_OF_BUDGET;
            }
            left -= growth.madeCount - madeBefore;
            if (came != Growth.DONE) {
                moreExpressions = moreExpressions && tests;
                moreTests = moreTests && !tests;
            }
            size = settle(ifs);
        }
        return size;
    }

    public int solved(int what) throws IllegalStateException, NoSuchElementException {
        refuseNotSolved();
        switch (what) {
            case 0:
                return program.size;
            case 1:
                return program.countIfs();
            case 2:
                return program.deepestIf();
            case 3:
                return program.countLeaves();
            case 4:
                return program.asked[0];
            case 5:
                return program.leaves[0];
            default:
                throw new NoSuchElementException("what is 0 to 5");
        }
    }

    public int comes(int x, int y, int z) throws IllegalStateException, IllegalArgumentException {
        refuseNotSolved();
        refuseNoInputs(x, y, z);
        point.put(x, y, z);
        return program.comesTo(point.inputs);
    }

    public int writeSolved() throws IllegalStateException {
        refuseNotSolved();
        text.clear();
        program.spellFrom(text, 0);
        return text.length;
    }

    public int leaf(int example) throws IllegalStateException, NoSuchElementException {
        refuseNotSolved();
        refuseNoExample(example);
        return program.leafOf(example);
    }

    public int apart(int k, int input) throws IllegalStateException, NoSuchElementException {
        refuseNotSolved();
        refuseNotKept(false, k);
        refuseNoInputNumber(input);
        int points = point.start(examples.many);
        for (int p = 0; p < points; p++) {
            if (program.comesTo(point.inputs) != grownExpressions.comesTo(k, point.inputs)) {
                return point.inputs[input];
            }
            point.step(examples.many);
        }
        return NOT_APART;
    }

    public int without(int part, int ifs) throws IllegalArgumentException, IllegalStateException {
        refuseNoPart(part);
        refuseNoIfs(ifs);
        refuseNoExamples();
        solver.prepare(part);
        return solver.sizeOrNone(examples.all(), ifs);
    }

    public int ties(int ifs) throws IllegalArgumentException, IllegalStateException {
        refuseNoIfs(ifs);
        refuseNoExamples();
        solver.prepare(NONE);
        return solver.waysOf(examples.all(), ifs);
    }

    public int needed() throws IllegalStateException {
        refuseNoExamples();
        solver.prepare(NONE);
        for (int ifs = 0; ifs <= MOST_IFS; ifs++) {
            if (solver.sizeOrNone(examples.all(), ifs) != NONE) {
                return ifs;
            }
        }
        return NONE;
    }

    public int solvedUses(int part) throws IllegalStateException, IllegalArgumentException {
        refuseNotSolved();
        refuseNoPart(part);
        return program.partsIn(part);
    }

    public int way(int x, int y, int z, int k) throws IllegalStateException, IllegalArgumentException {
        refuseNotSolved();
        refuseNoInputs(x, y, z);
        point.put(x, y, z);
        return program.askedOnWay(point.inputs, k);
    }

    public boolean isIdle(int example) throws IllegalStateException, NoSuchElementException {
        refuseNotSolved();
        refuseNoExample(example);
        int others = examples.all() & ~(1 << example);
        if (others == 0) {
            return false;
        }
        solver.prepare(NONE);
        if (solver.sizeOrNone(others, program.ifs) != program.size) {
            return false;
        }
        rival.clear();
        solver.place(rival, 0, others, program.ifs);
        return program.isSameAs(rival);
    }

    public int fits(int set, int what) throws IllegalArgumentException, NoSuchElementException {
        refuseEmpty(set);
        refuseStrangers(set);
        if (what != 0 && what != 1) {
            throw new NoSuchElementException("what is 0 or 1");
        }
        for (int k = 0; k < grownExpressions.keptCount; k++) {
            if ((set & ~grownExpressions.sets[k]) == 0) {
                return what == 0 ? grownExpressions.sizes[k] : k;
            }
        }
        return NONE;
    }

    public int fewest() {
        solver.prepare(NONE);
        return solver.fewestOrNone(examples.all());
    }

    public int splits(int ones, int noughts) throws IllegalArgumentException {
        refuseEmpty(ones);
        refuseEmpty(noughts);
        refuseStrangers(ones | noughts);
        if ((ones & noughts) != 0) {
            throw new IllegalArgumentException("both sets have one");
        }
        for (int k = 0; k < grownTests.keptCount; k++) {
            int set = grownTests.sets[k];
            if ((ones & ~set) == 0 && (noughts & set) == 0) {
                return k;
            }
        }
        return NONE;
    }

    public int count(int what) {
        switch (what) {
            case 0:
                return examples.many;
            case 1:
                return examples.size;
            case 2:
                return supply.constantCount;
            case 3:
                return supply.parts;
            case 4:
                return allowance;
            case 5:
                return text.length;
            case 6:
                return program.stands ? 1 : 0;
            default:
                return NONE;
        }
    }

    public int told(int example, int what) throws NoSuchElementException {
        refuseNoExample(example);
        if (what < 0 || what > Examples.WANTED) {
            throw new NoSuchElementException("what is 0 to 3");
        }
        return examples.rows[what][example];
    }

    public int constantAt(int k) throws NoSuchElementException {
        if (k < 0 || k >= supply.constantCount) {
            throw new NoSuchElementException("no such CONSTANT");
        }
        return supply.constants[k];
    }

    private void forgetAllMade() {
        grownExpressions.forget();
        grownTests.forget();
        solver.forget();
        program.stands = false;
    }

    /** What solve() and make() share: SOLVED is found anew by what is KEPT now. */
    private int settle(int ifs) {
        solver.prepare(NONE);
        program.stands = false;
        int size = solver.sizeOrNone(examples.all(), ifs);
        if (size != NONE) {
            program.clear();
            solver.place(program, 0, examples.all(), ifs);
            program.size = size;
            program.ifs = ifs;
            program.stands = true;
        }
        return size;
    }

    private Growth growthOf(boolean tests) {
        return tests ? grownTests : grownExpressions;
    }

    private Growth growthWith(boolean tests, int k) {
        refuseNotKept(tests, k);
        return growthOf(tests);
    }

    private void refuseNotKept(boolean tests, int k) {
        if (k < 0 || k >= growthOf(tests).keptCount) {
            throw new NoSuchElementException("no such one is KEPT");
        }
    }

    private void refuseNoExample(int example) {
        if (example < 0 || example >= examples.size) {
            throw new NoSuchElementException("no such EXAMPLE");
        }
    }

    private void refuseNoExamples() {
        if (examples.size == 0) {
            throw new IllegalStateException("there are no EXAMPLES");
        }
    }

    private void refuseNotSolved() {
        if (!program.stands) {
            throw new IllegalStateException("none is SOLVED");
        }
    }

    private void refuseNoInputs(int x, int y, int z) {
        if (!examples.mayBe(0, x) || !examples.mayBe(1, y) || !examples.mayBe(2, z)) {
            throw new IllegalArgumentException("an INPUT is none");
        }
    }

    private static void refuseNoInputNumber(int input) {
        if (input < 0 || input >= Point.INPUTS) {
            throw new NoSuchElementException("INPUTS are 0 to 2");
        }
    }

    private static void refuseNoPart(int part) {
        if (part < 0 || part >= Parts.COUNT) {
            throw new IllegalArgumentException("PARTS are 0 to 9");
        }
    }

    private static void refuseNoIfs(int ifs) {
        if (ifs < 0 || ifs > MOST_IFS) {
            throw new IllegalArgumentException("ifs within one another are 0 to 3");
        }
    }

    private static void refuseEmpty(int set) {
        if (set == 0) {
            throw new IllegalArgumentException("the set is empty");
        }
    }

    private void refuseStrangers(int set) {
        if ((set & ~examples.all()) != 0) {
            throw new IllegalArgumentException("the set has what there is none of");
        }
    }

    /** What the PARTS come to, and how they are WRITTEN. */
    private static final class Parts {
        static final int COUNT = 10;
        static final int PLUS = 0;
        static final int MINUS = 1;
        static final int TIMES = 2;
        static final int LESSER = 3;
        static final int GREATER = 4;
        static final int NEGATIVE = 5;
        static final int DIVIDED = 6;
        static final int REST = 7;
        static final int ABSOLUTE = 8;
        static final int SIGN = 9;

        /** What stands between both of a PART of two, by PARTS' numbers. */
        static final char[] MIDDLES = {'+', '-', '*', ',', ',', ' ', '/', '%', ' ', ' '};

        static boolean isOfOne(int part) {
            return part == NEGATIVE || part == ABSOLUTE || part == SIGN;
        }

        static boolean isEvenHanded(int part) {
            return part == PLUS || part == TIMES || part == LESSER || part == GREATER;
        }

        static int apply(int part, int a, int b) {
            switch (part) {
                case PLUS:
                    return a + b;
                case MINUS:
                    return a - b;
                case TIMES:
                    return a * b;
                case LESSER:
                    return a < b ? a : b;
                case GREATER:
                    return a > b ? a : b;
                case NEGATIVE:
                    return -a;
                case DIVIDED:
                    return b == 0 ? 0 : a / b;
                case REST:
                    return b == 0 ? 0 : a % b;
                case ABSOLUTE:
                    return a < 0 ? -a : a;
                default:
                    return a < 0 ? -1 : a > 0 ? 1 : 0;
            }
        }

        static String opening(int part) {
            switch (part) {
                case LESSER:
                    return "min(";
                case GREATER:
                    return "max(";
                case NEGATIVE:
                    return "-(";
                case ABSOLUTE:
                    return "abs(";
                case SIGN:
                    return "sgn(";
                default:
                    return "(";
            }
        }
    }

    /** EXAMPLES: three rows of INPUTS and one of what is WANTED. */
    private static final class Examples {
        static final int MOST = 12;
        static final int SETS = 1 << MOST;
        static final int WANTED = 3;
        static final int WIDEST_INPUT = 99;
        static final int WIDEST_WANTED = 999;

        final int[][] rows = new int[4][MOST];
        int many = 1;
        int size;

        int all() {
            return (1 << size) - 1;
        }

        boolean mayBe(int input, int v) {
            return input < many ? v >= -WIDEST_INPUT && v <= WIDEST_INPUT : v == 0;
        }

        boolean areThere(int x, int y, int z) {
            for (int e = 0; e < size; e++) {
                if (rows[0][e] == x && rows[1][e] == y && rows[2][e] == z) {
                    return true;
                }
            }
            return false;
        }

        int add(int x, int y, int z, int wanted) {
            rows[0][size] = x;
            rows[1][size] = y;
            rows[2][size] = z;
            rows[WANTED][size] = wanted;
            size++;
            return size - 1;
        }

        void remove(int example) {
            for (int r = 0; r < rows.length; r++) {
                System.arraycopy(rows[r], example + 1, rows[r], example, size - example - 1);
            }
            size--;
        }
    }

    /** Of what EXPRESSIONS are MADE: PARTS that may be used, and CONSTANTS, rising. */
    private static final class Supply {
        static final int MOST_CONSTANTS = 10;
        static final int WIDEST_CONSTANT = 99;

        final int[] constants = new int[MOST_CONSTANTS];
        int constantCount = 2;
        int parts = 63;

        Supply() {
            constants[1] = 1;
        }

        static boolean isNoConstant(int v) {
            return v < -WIDEST_CONSTANT || v > WIDEST_CONSTANT;
        }

        boolean mayUse(int part) {
            return (parts >> part & 1) == 1;
        }

        boolean isFull() {
            return constantCount >= MOST_CONSTANTS;
        }

        boolean hasConstant(int v) {
            for (int k = 0; k < constantCount; k++) {
                if (constants[k] == v) {
                    return true;
                }
            }
            return false;
        }

        void addConstant(int v) {
            int k = constantCount;
            for (; k > 0 && constants[k - 1] > v; k--) {
                constants[k] = constants[k - 1];
            }
            constants[k] = v;
            constantCount++;
        }

        void offerConstant(int v) {
            if (!isNoConstant(v) && !hasConstant(v) && !isFull()) {
                addConstant(v);
            }
        }
    }

    /** INPUTS that something is asked with, and the steps through all of them from -9 to 9. */
    private static final class Point {
        static final int INPUTS = 3;
        static final int EDGE = 9;

        final int[] inputs = new int[INPUTS];

        void put(int x, int y, int z) {
            inputs[0] = x;
            inputs[1] = y;
            inputs[2] = z;
        }

        /** Goes to the first INPUTS: how many there are in all. */
        int start(int many) {
            int points = 1;
            for (int i = 0; i < INPUTS; i++) {
                inputs[i] = i < many ? -EDGE : 0;
                points = i < many ? points * (2 * EDGE + 1) : points;
            }
            return points;
        }

        /** The last INPUT goes fastest, as the first tells which INPUTS are first. */
        void step(int many) {
            for (int i = many - 1; i >= 0; i--) {
                if (inputs[i] < EDGE) {
                    inputs[i]++;
                    return;
                }
                inputs[i] = -EDGE;
            }
        }
    }

    /** What was WRITTEN latest. */
    private static final class Text {
        /** A PROGRAM of 7 TESTS and 8 EXPRESSIONS takes below 600 bytes. */
        static final int MOST = 1024;

        final byte[] bytes = new byte[MOST];
        int length;

        void clear() {
            length = 0;
        }

        void add(char sign) {
            if (length < MOST) {
                bytes[length] = (byte) sign;
                length++;
            }
        }

        void addAll(String signs) {
            for (int i = 0; i < signs.length(); i++) {
                add(signs.charAt(i));
            }
        }

        /** A CONSTANT: two digits at most. */
        void addNumber(int v) {
            int size = v < 0 ? -v : v;
            if (v < 0) {
                add('-');
            }
            if (size > 9) {
                add((char) ('0' + size / 10));
            }
            add((char) ('0' + size % 10));
        }
    }

    /** How some are MADE: a kind, and the numbers of one or two, or what an INPUT or CONSTANT is. */
    private static final class Forms {
        final int[] kinds;
        final int[] firsts;
        final int[] seconds;

        Forms(int most) {
            kinds = new int[most];
            firsts = new int[most];
            seconds = new int[most];
        }

        void put(int k, int kind, int first, int second) {
            kinds[k] = kind;
            firsts[k] = first;
            seconds[k] = second;
        }
    }

    /** What EXPRESSIONS and TESTS have in common: being MADE by SIZE, KEPT, MERGED, gone back. */
    private abstract static class Growth {
        static final int DONE = 0;
        static final int FULL = 1;
        static final int BUDGET = 2;
        static final int NO_MORE = 3;

        /** No one is deeper than the last SIZE of EXPRESSIONS. */
        static final int DEEPEST = 9;

        /** How often PARTS stand in one is held by four bits for each of them: 8 times at most. */
        static final int BITS_OF_USES = 4;

        final Examples examples;

        /** How each KEPT one is MADE, and the first that was MERGED with it, where any was. */
        final Forms forms;
        final Forms mergedForms;

        final int[] sizes;
        final long[] usage;

        /** Of an EXPRESSION its COVER, of a TEST where it is 1. */
        final int[] sets;

        /** How many were MERGED with each KEPT one, now and ahead of the SIZE that is MADE. */
        final int[] mergedWith;
        private final int[] mergedBefore;

        /** By SIZES: the number behind the last KEPT one of it. */
        final int[] ends;

        int keptCount;
        int mergedCount;
        int idleCount;
        int madeCount;
        int level;
        boolean isFull;
        private int sizeNow;
        private int room;
        private int outcome;

        Growth(Examples examples, int most, int lastSize) {
            this.examples = examples;
            forms = new Forms(most);
            mergedForms = new Forms(most);
            sizes = new int[most];
            usage = new long[most];
            sets = new int[most];
            mergedWith = new int[most];
            mergedBefore = new int[most];
            ends = new int[lastSize + 1];
        }

        /** The SIZE that GROWTH begins with. */
        abstract int firstSize();

        /** All of a SIZE are offered in their order, till an offer is not taken. */
        abstract boolean makeAll(int size);

        /** Finds the OUTPUTS of one that is not KEPT (yet). */
        abstract void reckon(int kind, int first, int second);

        /** Whether what was reckoned is IDLE. */
        abstract boolean saysNothing();

        /** The KEPT one with the OUTPUTS that were reckoned; NONE. */
        abstract int holder();

        /** What was reckoned becomes the OUTPUTS of k. */
        abstract void settleOutputs(int k);

        /** The latest of those that are KEPT is no holder of OUTPUTS any more. */
        abstract void unsettleOutputs(int k);

        abstract long usageOf(int kind, int first, int second);

        abstract int outputOn(int k, int example);

        /** What stands as k in some forms comes to. */
        abstract int come(Forms in, int k, int[] inputs, int depth);

        /** What stands as k in some forms is WRITTEN. */
        abstract void spell(Text text, Forms in, int k, int depth);

        final int comesTo(int k, int[] inputs) {
            return come(forms, k, inputs, DEEPEST);
        }

        final int firstMergedComesTo(int k, int[] inputs) {
            return come(mergedForms, k, inputs, DEEPEST);
        }

        final void spellKept(Text text, int k) {
            spell(text, forms, k, DEEPEST);
        }

        final void spellFirstMerged(Text text, int k) {
            spell(text, mergedForms, k, DEEPEST);
        }

        final int partsIn(int k, int part) {
            return (int) (usage[k] >>> BITS_OF_USES * part) & (1 << BITS_OF_USES) - 1;
        }

        /** Whether a PART does not stand in k; NONE stands in none. */
        final boolean lacks(int k, int part) {
            return part == NONE || partsIn(k, part) == 0;
        }

        /** The number of the first KEPT one of a SIZE. */
        final int begin(int size) {
            return size < 1 || size >= ends.length ? 0 : ends[size - 1];
        }

        /** The number behind the last KEPT one of a SIZE. */
        final int end(int size) {
            return size < 1 || size >= ends.length ? 0 : ends[size];
        }

        final void forget() {
            unsettleBehind(0);
            mergedCount = 0;
            idleCount = 0;
            madeCount = 0;
            level = 0;
            isFull = false;
            Arrays.fill(ends, 0);
        }

        /** All of the next SIZE are MADE, at most so many: answers as grow() does. */
        final int advance(int mayMake) {
            if (examples.size == 0) {
                return NO_MORE;
            }
            if (isFull) {
                return FULL;
            }
            if (level >= ends.length - 1) {
                return NO_MORE;
            }
            int kept = keptCount;
            int merged = mergedCount;
            int idle = idleCount;
            int made = madeCount;
            System.arraycopy(mergedWith, 0, mergedBefore, 0, kept);
            sizeNow = level == 0 ? firstSize() : level + 1;
            room = mayMake;
            outcome = DONE;
            makeAll(sizeNow);
            if (outcome == BUDGET) {
                unsettleBehind(kept);
                System.arraycopy(mergedBefore, 0, mergedWith, 0, kept);
                mergedCount = merged;
                idleCount = idle;
                madeCount = made;
                return BUDGET;
            }
            Arrays.fill(ends, sizeNow, ends.length, keptCount);
            isFull = outcome == FULL;
            level = isFull ? level : sizeNow;
            return outcome;
        }

        /** One is MADE, if there is room, and KEPT or not: whether another may be MADE. */
        final boolean offer(int kind, int first, int second) {
            if (room == 0) {
                outcome = BUDGET;
                return false;
            }
            room--;
            madeCount++;
            reckon(kind, first, second);
            if (saysNothing()) {
                idleCount++;
                return true;
            }
            int same = holder();
            if (same != NONE) {
                merge(same, kind, first, second);
                return true;
            }
            if (keptCount >= sizes.length) {
                outcome = FULL;
                return false;
            }
            forms.put(keptCount, kind, first, second);
            sizes[keptCount] = sizeNow;
            usage[keptCount] = usageOf(kind, first, second);
            mergedWith[keptCount] = 0;
            settleOutputs(keptCount);
            keptCount++;
            return true;
        }

        /** One first is offered with each of the seconds from a number to another one. */
        final boolean offerEach(int kind, int first, int from, int behind) {
            for (int second = from; second < behind; second++) {
                if (!offer(kind, first, second)) {
                    return false;
                }
            }
            return true;
        }

        private void merge(int same, int kind, int first, int second) {
            if (mergedWith[same] == 0) {
                mergedForms.put(same, kind, first, second);
            }
            mergedWith[same]++;
            mergedCount++;
        }

        private void unsettleBehind(int kept) {
            for (int k = keptCount - 1; k >= kept; k--) {
                unsettleOutputs(k);
            }
            keptCount = kept;
        }
    }

    /** EXPRESSIONS: their kinds are PARTS' numbers, and two kinds for those of SIZE 1. */
    private static final class Expressions extends Growth {
        static final int MOST = 300;
        static final int LAST_SIZE = 9;
        static final int INPUT = Parts.COUNT;
        static final int CONSTANT = Parts.COUNT + 1;
        static final int MOST_FAR = 1000000;

        /** Many more slots than KEPT ones, so that few share one. */
        private static final int SLOT_BITS = 9;

        private final Supply supply;

        /** A row for each KEPT one, and one more: behind the last stands what is reckoned. */
        final int[] outputs = new int[(MOST + 1) * Examples.MOST];

        /** KEPT ones by their OUTPUTS: each slot has a chain of them, the latest first. */
        private final int[] heads = new int[1 << SLOT_BITS];
        private final int[] nexts = new int[MOST];
        private final int[] slots = new int[MOST];
        private int slotReckoned;

        Expressions(Examples examples, Supply supply) {
            super(examples, MOST, LAST_SIZE);
            this.supply = supply;
            Arrays.fill(heads, NONE);
        }

        int firstSize() {
            return 1;
        }

        boolean makeAll(int size) {
            if (size == 1) {
                return makeInputs() && makeConstants();
            }
            for (int part = 0; part < Parts.COUNT; part++) {
                if (!supply.mayUse(part)) {
                    continue;
                }
                boolean more = Parts.isOfOne(part) ? makeOfOne(part, size) : makeOfTwo(part, size);
                if (!more) {
                    return false;
                }
            }
            return true;
        }

        private boolean makeInputs() {
            for (int i = 0; i < examples.many; i++) {
                if (!offer(INPUT, i, 0)) {
                    return false;
                }
            }
            return true;
        }

        private boolean makeConstants() {
            for (int c = 0; c < supply.constantCount; c++) {
                if (!offer(CONSTANT, supply.constants[c], 0)) {
                    return false;
                }
            }
            return true;
        }

        private boolean makeOfOne(int part, int size) {
            for (int a = begin(size - 1); a < end(size - 1); a++) {
                if (!offer(part, a, 0)) {
                    return false;
                }
            }
            return true;
        }

        private boolean makeOfTwo(int part, int size) {
            boolean evenHanded = Parts.isEvenHanded(part);
            for (int s = 1; s < size - 1; s++) {
                int behind = end(size - 1 - s);
                for (int a = begin(s); a < end(s); a++) {
                    int from = begin(size - 1 - s);
                    if (!offerEach(part, a, evenHanded && from < a ? a : from, behind)) {
                        return false;
                    }
                }
            }
            return true;
        }

        void reckon(int kind, int first, int second) {
            int row = keptCount * Examples.MOST;
            if (kind == INPUT) {
                System.arraycopy(examples.rows[first], 0, outputs, row, examples.size);
            } else if (kind == CONSTANT) {
                Arrays.fill(outputs, row, row + examples.size, first);
            } else {
                int a = first * Examples.MOST;
                int b = second * Examples.MOST;
                for (int e = 0; e < examples.size; e++) {
                    outputs[row + e] = Parts.apply(kind, outputs[a + e], outputs[b + e]);
                }
            }
            slotReckoned = slotOf(row);
        }

        /** Multiplied, so that OUTPUTS which differ a little do not share a slot. */
        private int slotOf(int row) {
            int mixed = 0;
            for (int e = 0; e < examples.size; e++) {
                mixed = (mixed ^ outputs[row + e]) * 0x9E3779B1;
            }
            return mixed >>> 32 - SLOT_BITS;
        }

        boolean saysNothing() {
            return false;
        }

        int holder() {
            int k = heads[slotReckoned];
            for (int step = 0; step < MOST && k != NONE; step++) {
                if (comesToReckoned(k * Examples.MOST)) {
                    return k;
                }
                k = nexts[k];
            }
            return NONE;
        }

        private boolean comesToReckoned(int row) {
            int reckoned = keptCount * Examples.MOST;
            for (int e = 0; e < examples.size; e++) {
                if (outputs[row + e] != outputs[reckoned + e]) {
                    return false;
                }
            }
            return true;
        }

        void settleOutputs(int k) {
            slots[k] = slotReckoned;
            nexts[k] = heads[slotReckoned];
            heads[slotReckoned] = k;
            int cover = 0;
            for (int e = 0; e < examples.size; e++) {
                if (outputOn(k, e) == examples.rows[Examples.WANTED][e]) {
                    cover |= 1 << e;
                }
            }
            sets[k] = cover;
        }

        void unsettleOutputs(int k) {
            heads[slots[k]] = nexts[k];
        }

        long usageOf(int kind, int first, int second) {
            if (kind >= Parts.COUNT) {
                return 0L;
            }
            long own = 1L << BITS_OF_USES * kind;
            return Parts.isOfOne(kind) ? own + usage[first] : own + usage[first] + usage[second];
        }

        int outputOn(int k, int example) {
            return outputs[k * Examples.MOST + example];
        }

        int come(Forms in, int k, int[] inputs, int depth) {
            int kind = in.kinds[k];
            if (kind == INPUT) {
                return inputs[in.firsts[k]];
            }
            if (kind == CONSTANT || depth == 0) {
                return in.firsts[k];
            }
            int a = come(forms, in.firsts[k], inputs, depth - 1);
            int b = Parts.isOfOne(kind) ? 0 : come(forms, in.seconds[k], inputs, depth - 1);
            return Parts.apply(kind, a, b);
        }

        void spell(Text text, Forms in, int k, int depth) {
            int kind = in.kinds[k];
            if (kind == INPUT) {
                text.add((char) ('x' + in.firsts[k]));
                return;
            }
            if (kind == CONSTANT || depth == 0) {
                text.addNumber(in.firsts[k]);
                return;
            }
            text.addAll(Parts.opening(kind));
            spell(text, forms, in.firsts[k], depth - 1);
            if (!Parts.isOfOne(kind)) {
                text.add(Parts.MIDDLES[kind]);
                spell(text, forms, in.seconds[k], depth - 1);
            }
            text.add(')');
        }

        int farness(int k) {
            int sum = 0;
            for (int e = 0; e < examples.size; e++) {
                long less = (long) outputOn(k, e) - examples.rows[Examples.WANTED][e];
                long distance = less < 0 ? -less : less;
                sum += distance > MOST_FAR ? MOST_FAR : (int) distance;
            }
            return sum;
        }
    }

    /** TESTS: of two EXPRESSIONS, or of one TEST or two. */
    private static final class Tests extends Growth {
        static final int MOST = 150;
        static final int FIRST_SIZE = 3;
        static final int LAST_SIZE = 7;
        static final int LAST_SIZE_COMPARED = 2;
        static final int LESS = 0;
        static final int EQUAL = 1;
        static final int NOT = 2;
        static final int AND = 3;

        /** What stands between both, by kinds. */
        private static final char[] MIDDLES = {'<', '=', ' ', '&'};

        private final Expressions expressions;

        /** The KEPT TEST that is 1 on just a set; NONE. */
        final int[] numbers = new int[Examples.SETS];
        private int reckoned;

        Tests(Examples examples, Expressions expressions) {
            super(examples, MOST, LAST_SIZE);
            this.expressions = expressions;
            Arrays.fill(numbers, NONE);
        }

        int firstSize() {
            return FIRST_SIZE;
        }

        boolean makeAll(int size) {
            return makeCompared(LESS, size) && makeCompared(EQUAL, size)
                    && makeNots(size) && makeAnds(size);
        }

        private boolean makeCompared(int kind, int size) {
            for (int s = 1; s <= LAST_SIZE_COMPARED; s++) {
                int t = size - 1 - s;
                int behind = t > LAST_SIZE_COMPARED ? 0 : expressions.end(t);
                for (int a = expressions.begin(s); a < expressions.end(s); a++) {
                    int from = expressions.begin(t);
                    if (!offerEach(kind, a, kind == EQUAL && from <= a ? a + 1 : from, behind)) {
                        return false;
                    }
                }
            }
            return true;
        }

        private boolean makeNots(int size) {
            for (int a = begin(size - 1); a < end(size - 1); a++) {
                if (!offer(NOT, a, 0)) {
                    return false;
                }
            }
            return true;
        }

        private boolean makeAnds(int size) {
            for (int s = FIRST_SIZE; s < size - 1; s++) {
                int behind = end(size - 1 - s);
                for (int a = begin(s); a < end(s); a++) {
                    int from = begin(size - 1 - s);
                    if (!offerEach(AND, a, from <= a ? a + 1 : from, behind)) {
                        return false;
                    }
                }
            }
            return true;
        }

        void reckon(int kind, int first, int second) {
            if (kind == NOT) {
                reckoned = examples.all() & ~sets[first];
            } else if (kind == AND) {
                reckoned = sets[first] & sets[second];
            } else {
                reckoned = compared(kind, first, second);
            }
        }

        private int compared(int kind, int first, int second) {
            int set = 0;
            for (int e = 0; e < examples.size; e++) {
                int a = expressions.outputOn(first, e);
                int b = expressions.outputOn(second, e);
                if (kind == LESS ? a < b : a == b) {
                    set |= 1 << e;
                }
            }
            return set;
        }

        boolean saysNothing() {
            return reckoned == 0 || reckoned == examples.all();
        }

        int holder() {
            return numbers[reckoned];
        }

        void settleOutputs(int k) {
            sets[k] = reckoned;
            numbers[reckoned] = k;
        }

        void unsettleOutputs(int k) {
            numbers[sets[k]] = NONE;
        }

        long usageOf(int kind, int first, int second) {
            if (kind == NOT) {
                return usage[first];
            }
            if (kind == AND) {
                return usage[first] + usage[second];
            }
            return expressions.usage[first] + expressions.usage[second];
        }

        int outputOn(int k, int example) {
            return sets[k] >> example & 1;
        }

        int come(Forms in, int k, int[] inputs, int depth) {
            int kind = in.kinds[k];
            int first = in.firsts[k];
            int second = in.seconds[k];
            if (kind == LESS) {
                return expressions.comesTo(first, inputs) < expressions.comesTo(second, inputs) ? 1 : 0;
            }
            if (kind == EQUAL) {
                return expressions.comesTo(first, inputs) == expressions.comesTo(second, inputs) ? 1 : 0;
            }
            int a = depth == 0 ? 0 : come(forms, first, inputs, depth - 1);
            if (kind == NOT) {
                return 1 - a;
            }
            return a == 0 ? 0 : come(forms, second, inputs, depth - 1);
        }

        void spell(Text text, Forms in, int k, int depth) {
            int kind = in.kinds[k];
            text.addAll(kind == NOT ? "!(" : "(");
            if (kind == LESS || kind == EQUAL) {
                expressions.spellKept(text, in.firsts[k]);
                text.add(MIDDLES[kind]);
                expressions.spellKept(text, in.seconds[k]);
            } else if (depth > 0) {
                spell(text, forms, in.firsts[k], depth - 1);
                if (kind == AND) {
                    text.add(MIDDLES[kind]);
                    spell(text, forms, in.seconds[k], depth - 1);
                }
            }
            text.add(')');
        }
    }

    /** A PROGRAM as a tree: behind node n stand 2n + 1 (then) and 2n + 2 (else). */
    private static final class Program {
        static final int NODES = 15;

        private final Expressions expressions;
        private final Tests tests;

        /** By nodes: the TEST of an if, and the EXPRESSION where there is no if; else NONE. */
        final int[] asked = new int[NODES];
        final int[] leaves = new int[NODES];
        boolean stands;
        int size;

        /** The ifs of the call by which it was SOLVED. */
        int ifs;

        Program(Expressions expressions, Tests tests) {
            this.expressions = expressions;
            this.tests = tests;
        }

        static int nodeBehind(int node, boolean isThen) {
            return 2 * node + (isThen ? 1 : 2);
        }

        static boolean mayAsk(int node) {
            return 2 * node + 2 < NODES;
        }

        void clear() {
            Arrays.fill(asked, NONE);
            Arrays.fill(leaves, NONE);
        }

        boolean isSameAs(Program other) {
            for (int node = 0; node < NODES; node++) {
                if (asked[node] != other.asked[node] || leaves[node] != other.leaves[node]) {
                    return false;
                }
            }
            return true;
        }

        int countIfs() {
            int found = 0;
            for (int node = 0; node < NODES; node++) {
                if (asked[node] != NONE) {
                    found++;
                }
            }
            return found;
        }

        int deepestIf() {
            int deepest = 0;
            for (int node = 0; node < NODES; node++) {
                if (asked[node] != NONE) {
                    deepest = node == 0 ? 1 : node < 3 ? 2 : MOST_IFS;
                }
            }
            return deepest;
        }

        int countLeaves() {
            int found = 0;
            for (int node = 0; node < NODES; node++) {
                if (leaves[node] != NONE && !standsAhead(node)) {
                    found++;
                }
            }
            return found;
        }

        private boolean standsAhead(int node) {
            for (int n = 0; n < node; n++) {
                if (leaves[n] == leaves[node]) {
                    return true;
                }
            }
            return false;
        }

        int comesTo(int[] inputs) {
            int node = 0;
            for (int step = 0; step < MOST_IFS && asked[node] != NONE; step++) {
                node = nodeBehind(node, tests.comesTo(asked[node], inputs) == 1);
            }
            return expressions.comesTo(leaves[node], inputs);
        }

        int leafOf(int example) {
            int node = 0;
            for (int step = 0; step < MOST_IFS && asked[node] != NONE; step++) {
                node = nodeBehind(node, tests.outputOn(asked[node], example) == 1);
            }
            return leaves[node];
        }

        int askedOnWay(int[] inputs, int k) {
            int node = 0;
            for (int step = 0; step < MOST_IFS && asked[node] != NONE; step++) {
                int answer = tests.comesTo(asked[node], inputs);
                if (step == k) {
                    return 2 * asked[node] + answer;
                }
                node = nodeBehind(node, answer == 1);
            }
            return NONE;
        }

        int partsIn(int part) {
            int found = 0;
            for (int node = 0; node < NODES; node++) {
                if (asked[node] != NONE) {
                    found += tests.partsIn(asked[node], part);
                }
                if (leaves[node] != NONE) {
                    found += expressions.partsIn(leaves[node], part);
                }
            }
            return found;
        }

        void spellFrom(Text text, int node) {
            if (asked[node] == NONE || !mayAsk(node)) {
                expressions.spellKept(text, leaves[node]);
                return;
            }
            text.add('[');
            tests.spellKept(text, asked[node]);
            text.add('?');
            spellFrom(text, nodeBehind(node, true));
            text.add(':');
            spellFrom(text, nodeBehind(node, false));
            text.add(']');
        }
    }

    /** Finds what is SOLVED for sets of EXAMPLES, by what is KEPT and has not a barred PART. */
    private static final class Solver {
        private static final int NOBODY = Expressions.MOST;
        private static final int NO_SIZE = 1000000;
        private static final int MOST_WAYS = 1000000000;

        /** An if adds its own 1 and two PROGRAMS of SIZE 1 or more to the SIZE of its TEST. */
        private static final int LEAST_ADDED = 3;

        /** What is found for up to so many ifs is held; with more, only the whole is ever asked. */
        private static final int IFS_HELD = 2;

        private final Examples examples;
        private final Expressions expressions;
        private final Tests tests;

        /** By sets: the least KEPT EXPRESSION that FITS it; NOBODY. */
        private final int[] least = new int[Examples.SETS];

        /** By ifs, by sets: the least SIZE, NO_SIZE; 0 as long as not asked (without ifs all are found). */
        private final int[][] sizes = new int[IFS_HELD + 1][Examples.SETS];

        /** By ifs, by sets: in how many ways that SIZE comes; 0 as long as not asked. */
        private final int[][] ways = new int[IFS_HELD + 1][Examples.SETS];

        /** By sets: the fewest EXPRESSIONS that COVER it; 0 as long as not asked. */
        private final int[] fewestKnown = new int[Examples.SETS];

        /** TESTS without the barred PART, by their numbers. */
        private final int[] usable = new int[Tests.MOST];
        private int usableCount;
        private int covered;
        private int barred;

        /** What is found holds as long as so many are KEPT: no one goes but by all that was MADE. */
        private int expressionsSeen;
        private int testsSeen;
        private boolean isReady;

        Solver(Examples examples, Expressions expressions, Tests tests) {
            this.examples = examples;
            this.expressions = expressions;
            this.tests = tests;
        }

        /** All that was MADE goes, and what was found by it. */
        void forget() {
            isReady = false;
        }

        void prepare(int barredPart) {
            boolean isSeen = expressionsSeen == expressions.keptCount && testsSeen == tests.keptCount;
            if (isReady && isSeen && barred == barredPart) {
                return;
            }
            barred = barredPart;
            expressionsSeen = expressions.keptCount;
            testsSeen = tests.keptCount;
            isReady = true;
            int sets = examples.all() + 1;
            for (int held = 0; held <= IFS_HELD; held++) {
                Arrays.fill(sizes[held], 0, sets, 0);
                Arrays.fill(ways[held], 0, sets, 0);
            }
            Arrays.fill(fewestKnown, 0, sets, 0);
            findUsable();
            findLeast(sets);
            for (int set = 0; set < sets; set++) {
                sizes[0][set] = least[set] == NOBODY ? NO_SIZE : expressions.sizes[least[set]];
            }
        }

        private void findUsable() {
            usableCount = 0;
            for (int t = 0; t < tests.keptCount; t++) {
                if (tests.lacks(t, barred)) {
                    usable[usableCount] = t;
                    usableCount++;
                }
            }
        }

        /** What FITS a set FITS each smaller one: each passes on to those with one bit less. */
        private void findLeast(int sets) {
            Arrays.fill(least, 0, sets, NOBODY);
            covered = 0;
            for (int k = expressions.keptCount - 1; k >= 0; k--) {
                if (expressions.lacks(k, barred)) {
                    least[expressions.sets[k]] = k;
                    covered |= expressions.sets[k];
                }
            }
            for (int bit = 1; bit < sets; bit <<= 1) {
                for (int set = 0; set < sets; set++) {
                    if ((set & bit) == 0 && least[set | bit] < least[set]) {
                        least[set] = least[set | bit];
                    }
                }
            }
        }

        int sizeOrNone(int set, int ifs) {
            int size = sizeOf(set, ifs);
            return size == NO_SIZE ? NONE : size;
        }

        private int sizeOf(int set, int ifs) {
            if (ifs <= 0) {
                return sizes[0][set];
            }
            boolean isHeld = ifs <= IFS_HELD;
            if (isHeld && sizes[ifs][set] != 0) {
                return sizes[ifs][set];
            }
            int best = sizes[0][set];
            if ((set & ~covered) != 0) {
                return best;
            }
            for (int i = 0; i < usableCount && mayDo(usable[i], best - 1); i++) {
                int size = sizeWith(usable[i], set, ifs);
                if (size < best) {
                    best = size;
                }
            }
            if (isHeld) {
                sizes[ifs][set] = best;
            }
            return best;
        }

        /** Whether an if may be so small: as TESTS' SIZES rise, no later TEST does what one cannot. */
        private boolean mayDo(int test, int size) {
            return tests.sizes[test] + LEAST_ADDED <= size;
        }

        /** The SIZE of the best if with a TEST; NO_SIZE also where then or else has no EXAMPLE. */
        private int sizeWith(int test, int set, int ifs) {
            int thens = set & tests.sets[test];
            if (thens == 0 || thens == set) {
                return NO_SIZE;
            }
            int thenSize = sizeOf(thens, ifs - 1);
            if (thenSize == NO_SIZE) {
                return NO_SIZE;
            }
            int elseSize = sizeOf(set ^ thens, ifs - 1);
            return elseSize == NO_SIZE ? NO_SIZE : tests.sizes[test] + 1 + thenSize + elseSize;
        }

        /** What would be SOLVED for a set, which there must be, is put at a node and behind it. */
        void place(Program into, int node, int set, int ifs) {
            int best = sizeOf(set, ifs);
            int test = NONE;
            if (best != sizes[0][set] && Program.mayAsk(node)) {
                test = firstTestWith(best, set, ifs);
            }
            into.asked[node] = test;
            if (test == NONE) {
                into.leaves[node] = least[set];
                return;
            }
            int thens = set & tests.sets[test];
            place(into, Program.nodeBehind(node, true), thens, ifs - 1);
            place(into, Program.nodeBehind(node, false), set ^ thens, ifs - 1);
        }

        private int firstTestWith(int size, int set, int ifs) {
            for (int i = 0; i < usableCount; i++) {
                if (sizeWith(usable[i], set, ifs) == size) {
                    return usable[i];
                }
            }
            return NONE;
        }

        /** How many PROGRAMS of the least SIZE there are: behind then, else those are least, too. */
        int waysOf(int set, int ifs) {
            int best = sizeOf(set, ifs);
            if (best == NO_SIZE) {
                return 0;
            }
            boolean isHeld = ifs <= IFS_HELD;
            if (isHeld && ways[ifs][set] != 0) {
                return ways[ifs][set];
            }
            long found = best == sizes[0][set] ? countFitting(set, best) : 0;
            for (int i = 0; ifs > 0 && i < usableCount && mayDo(usable[i], best); i++) {
                if (sizeWith(usable[i], set, ifs) == best) {
                    int thens = set & tests.sets[usable[i]];
                    long both = (long) waysOf(thens, ifs - 1) * waysOf(set ^ thens, ifs - 1);
                    found = Math.min(MOST_WAYS, found + Math.min(MOST_WAYS, both));
                }
            }
            if (isHeld) {
                ways[ifs][set] = (int) found;
            }
            return (int) found;
        }

        private int countFitting(int set, int size) {
            int found = 0;
            for (int k = least[set]; k < expressions.keptCount && expressions.sizes[k] == size; k++) {
                if ((set & ~expressions.sets[k]) == 0 && expressions.lacks(k, barred)) {
                    found++;
                }
            }
            return found;
        }

        int fewestOrNone(int set) {
            return (set & ~covered) != 0 ? NONE : fewestFor(set);
        }

        /** Some EXPRESSION must COVER the lowest one of the set: each that does is tried. */
        private int fewestFor(int set) {
            if (set == 0 || fewestKnown[set] != 0) {
                return set == 0 ? 0 : fewestKnown[set];
            }
            int best = least[set] == NOBODY ? Examples.MOST : 1;
            int lowest = set & -set;
            for (int k = 0; k < expressions.keptCount && best > 2; k++) {
                if ((expressions.sets[k] & lowest) != 0) {
                    best = Math.min(best, 1 + fewestFor(set & ~expressions.sets[k]));
                }
            }
            fewestKnown[set] = best;
            return best;
        }
    }
}
