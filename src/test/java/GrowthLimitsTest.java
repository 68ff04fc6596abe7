/**
 * GROWTH, BUDGET and promises 9, 10 and 18: each sentence that names a limit has a test here, at the
 * last number that is in and at the first that is out.
 */
public final class GrowthLimitsTest {
    private static final int MIN = Integer.MIN_VALUE;
    private static final int MAX = Integer.MAX_VALUE;
    private static final Check CHECK = new Check();

    public static void main(String[] args) {
        sizeOne();
        secondNotLess();
        secondNotLessOfLaterSizes();
        ofOnePart();
        sizes();
        mergedWithTheOneThatIsKept();
        exactly300();
        exactly300AtTheLastLevel();
        the301stStopsAtOnce();
        the301stByAPartOfOne();
        fullGoesWithAllThatWasMade();
        the151stBeforeOthers();
        exactly150();
        exactly150AtTheLastLevel();
        fullIsApart();
        testsOfSizesOneAndTwo();
        testsOfLaterExpressions();
        testsAboveTheFirst();
        idle();
        levels();
        noExamplesFirst();
        budgetOfFirstSize();
        budgetAsAhead();
        budgetOfIdle();
        budgetOfNothing();
        budgetAtFirst();
        budgetOf20000();
        budgetOrFull();
        grownAnother();
        ofSize();
        CHECK.end();
    }

    /** KEPT, MERGED, LEVEL, FULL, IDLE, MADE. */
    private static void grown(PartMaker maker, boolean tests, long... due) {
        CHECK.dueAll("grown(" + tests + ")", what -> maker.grown(tests, what), due);
    }

    private static void texts(PartMaker maker, boolean tests, int from, String... due) {
        for (int i = 0; i < due.length; i++) {
            int k = from + i;
            CHECK.writes("write(" + tests + ", " + k + ")", due[i], maker, () -> maker.write(tests, k));
        }
    }

    private static void grow(PartMaker maker, boolean tests, int times) {
        for (int turn = 1; turn <= times; turn++) {
            CHECK.due("grow(" + tests + "), time " + turn, 0, () -> maker.grow(tests));
        }
    }

    /** A maker with three INPUTS and EXAMPLES of nothing WANTED, told as x, y, z by turns. */
    private static PartMaker ofThree(int... told) {
        PartMaker maker = new PartMaker();
        maker.many(3);
        for (int i = 0; i + 2 < told.length; i += 3) {
            maker.example(told[i], told[i + 1], told[i + 2], 0);
        }
        return maker;
    }

    private static void sizeOne() {
        CHECK.promise("GROWTH, 'of SIZE 1: INPUTS in their order, then CONSTANTS, rising'");
        PartMaker maker = ofThree(0, 1, 5);
        maker.constant(99);
        maker.constant(-99);
        grow(maker, false, 1);
        grown(maker, false, 5, 2, 1, 0, 0, 7);
        texts(maker, false, 0, "x", "y", "z", "-99", "99");
        CHECK.writes("writeMerged(false, 0)", "0", maker, () -> maker.writeMerged(false, 0));
        CHECK.writes("writeMerged(false, 1)", "1", maker, () -> maker.writeMerged(false, 1));
        PartMaker one = Check.ofOne(7, 0);
        grow(one, false, 1);
        grown(one, false, 3, 0, 1, 0, 0, 3);
        PartMaker two = Check.ofTwo(7, 6, 0);
        grow(two, false, 1);
        grown(two, false, 4, 0, 1, 0, 0, 4);
    }

    private static void secondNotLess() {
        CHECK.promise("GROWTH, 'of + * lesser, greater: the second's number is not less than the first's'");
        int[] due = {6, 9, 6, 6, 6, 3, 9, 9, 3, 3};
        for (int part = 0; part <= 9; part++) {
            PartMaker maker = Check.ofOne(5, 0, 7, 0);
            Check.allowOnly(maker, part);
            boolean ofOne = part == 5 || part >= 8;
            grow(maker, false, ofOne ? 1 : 2);
            CHECK.due("grown(false, 5), SIZE 1", 3, () -> maker.grown(false, 5));
            grow(maker, false, 1);
            CHECK.due("grown(false, 5) with PART " + part, 3 + due[part], () -> maker.grown(false, 5));
        }
        PartMaker sums = Check.ofOne(5, 0, 7, 0);
        Check.allowOnly(sums, 0);
        grow(sums, false, 3);
        texts(sums, false, 3, "(x+x)", "(x+1)", "(1+1)");
        PartMaker less = Check.ofOne(5, 0, 7, 0);
        Check.allowOnly(less, 1);
        grow(less, false, 3);
        texts(less, false, 3, "(x-1)", "(0-x)", "(0-1)", "(1-x)");
    }

    private static void secondNotLessOfLaterSizes() {
        CHECK.promise("GROWTH, 'by the SIZE of the first, then by the number of the first, then of the second'");
        PartMaker sums = Check.ofOne(5, 0, 7, 0);
        Check.allowOnly(sums, 0);
        grow(sums, false, 5);
        // of SIZE 5: three of SIZE 1 with three of SIZE 3, not the other way round
        CHECK.due("grown(false, 5)", 3 + 6 + 9, () -> sums.grown(false, 5));
        texts(sums, false, 6, "(x+(x+x))", "(x+(x+1))", "(x+(1+1))", "(1+(1+1))");
        PartMaker less = Check.ofOne(5, 0, 7, 0);
        Check.allowOnly(less, 1);
        grow(less, false, 5);
        CHECK.due("grown(false, 5)", 3 + 9 + 3 * 4 + 4 * 3, () -> less.grown(false, 5));
        texts(less, false, 7, "(x-(0-x))", "(x-(0-1))", "(x-(1-x))", "(1-(x-1))", "(1-(0-1))", "((x-1)-1)", "((0-x)-x)",
                "((0-x)-1)", "((0-1)-1)", "((1-x)-x)");
    }

    private static void ofOnePart() {
        CHECK.promise("GROWTH, 'by PARTS' numbers', PARTS of one of what is KEPT of one SIZE less");
        PartMaker maker = Check.ofOne(5, 0, -7, 0);
        Check.allowOnly(maker, 5, 8, 9);
        grow(maker, false, 2);
        grown(maker, false, 7, 5, 2, 0, 0, 12);
        texts(maker, false, 3, "-(x)", "-(1)", "abs(x)", "sgn(x)");
        // sgn(x) comes to 1, -1
        PartMaker signs = Check.ofOne(5, 0, -7, 0, 0, 0);
        Check.allowOnly(signs, 9);
        grow(signs, false, 3);
        grown(signs, false, 4, 3, 3, 0, 0, 7);
        texts(signs, false, 3, "sgn(x)");
    }

    private static void sizes() {
        CHECK.promise("Terms, SIZES");
        PartMaker maker = Check.ofOne(5, 0, -7, 0);
        Check.allowOnly(maker, 0, 5);
        grow(maker, false, 4);
        for (int k = 0; k < maker.grown(false, 0); k++) {
            int asked = k;
            maker.write(false, k);
            int signs = Check.written(maker).replaceAll("[^x01+-]", "").length();
            CHECK.due("kept(false, " + k + ", 0)", signs, () -> maker.kept(false, asked, 0));
        }
        PartMaker tests = GrowthTest.steps();
        grow(tests, false, 1);
        grow(tests, true, 5);
        for (int k = 0; k < tests.grown(true, 0); k++) {
            int asked = k;
            tests.write(true, k);
            int signs = Check.written(tests).replaceAll("-5", "5").replaceAll("[^x0157<=!&]", "").length();
            CHECK.due("kept(true, " + k + ", 0)", signs, () -> tests.kept(true, asked, 0));
        }
        CHECK.due("ofSize(true, 7), some are", 1, () -> Math.min(1, tests.ofSize(true, 7)));
    }

    private static void mergedWithTheOneThatIsKept() {
        CHECK.promise("GROWTH, 'KEPT, if no KEPT one has the same OUTPUTS; else it is MERGED with that one'");
        PartMaker alike = Check.ofTwo(5, 5, 0, 7, 7, 0);
        Check.allowOnly(alike);
        grow(alike, false, 1);
        grown(alike, false, 3, 1, 1, 0, 0, 4);
        CHECK.due("kept(false, 0, 1)", 1, () -> alike.kept(false, 0, 1));
        PartMaker unlike = Check.ofTwo(5, 5, 0, 7, 7, 0, 8, 9, 0);
        Check.allowOnly(unlike);
        grow(unlike, false, 1);
        grown(unlike, false, 4, 0, 1, 0, 0, 4);
        PartMaker first = Check.ofTwo(4, 5, 0, 7, 7, 0, 9, 9, 0);
        Check.allowOnly(first);
        grow(first, false, 1);
        grown(first, false, 4, 0, 1, 0, 0, 4);
    }

    /** Of x, -3, 0, 1 with - and * just 300 come to unlike up to SIZE 7. */
    private static PartMaker just300() {
        PartMaker maker = Check.ofOne(7, 0, 8, 0, 6, 0, 2, 0, 3, 0);
        Check.allowOnly(maker, 1, 2);
        maker.constant(-3);
        maker.budget(20000);
        return maker;
    }

    private static void exactly300() {
        CHECK.promise("GROWTH, 'EXPRESSIONS stop at 300 KEPT ones: what would be the 301st is MADE, but not KEPT'");
        PartMaker maker = just300();
        grow(maker, false, 7);
        grown(maker, false, 300, 780, 7, 0, 0, 1080);
        CHECK.due("kept(false, 299, 0)", 7, () -> maker.kept(false, 299, 0));
        CHECK.due("grow(false), nothing is MADE of SIZE 8", 0, () -> maker.grow(false));
        grown(maker, false, 300, 780, 8, 0, 0, 1080);
        CHECK.due("grow(false), the 301st", 1, () -> maker.grow(false));
        CHECK.due("grown(false, 0)", 300, () -> maker.grown(false, 0));
        CHECK.due("grown(false, 2), LEVEL as ahead of it", 8, () -> maker.grown(false, 2));
        CHECK.due("grown(false, 3)", 1, () -> maker.grown(false, 3));
        CHECK.due("grown(false, 5)", 300 + maker.grown(false, 1) + 1, () -> maker.grown(false, 5));
        CHECK.refused("kept(false, 300, 0)", Check.ELEMENT, () -> maker.kept(false, 300, 0));
        CHECK.due("ofSize(false, 9)", 0, () -> maker.ofSize(false, 9));
        String before = Facts.of(maker);
        CHECK.due("grow(false), FULL already", 1, () -> maker.grow(false));
        CHECK.unchanged("nothing more is MADE", before, maker);
    }

    private static void exactly300AtTheLastLevel() {
        CHECK.promise("GROWTH, FULL at the 301st alone: 300 at LEVEL 9");
        PartMaker maker = ofThree(-7, -2, -1);
        Check.allowOnly(maker, 2, 3, 6);
        maker.constant(8);
        maker.constant(3);
        maker.budget(20000);
        grow(maker, false, 9);
        CHECK.due("grown(false, 0)", 300, () -> maker.grown(false, 0));
        CHECK.due("grown(false, 3)", 0, () -> maker.grown(false, 3));
        CHECK.due("grown(false, 5)", 300 + maker.grown(false, 1), () -> maker.grown(false, 5));
        CHECK.due("grow(false), LEVEL 9", 3, () -> maker.grow(false));
    }

    private static void the301stStopsAtOnce() {
        CHECK.promise("GROWTH, 'nothing more is MADE of any SIZE (those KEPT of that SIZE stay ...)'");
        PartMaker maker = Check.ofTwelve(1, 0);
        grow(maker, false, 4);
        int before = maker.grown(false, 0);
        CHECK.due("grow(false), FULL now", 1, () -> maker.grow(false));
        CHECK.due("grown(false, 2)", 4, () -> maker.grown(false, 2));
        CHECK.due("ofSize(false, 5), they stay", 300 - before, () -> maker.ofSize(false, 5));
        CHECK.due("kept(false, 299, 0)", 5, () -> maker.kept(false, 299, 0));
        CHECK.due("kept(false, 299, 1), the last one is the last", 0, () -> maker.kept(false, 299, 1));
        CHECK.due("grown(false, 5)", 300 + maker.grown(false, 1) + 1, () -> maker.grown(false, 5));
        String facts = Facts.of(maker);
        maker.budget(1);
        CHECK.due("grow(false), ahead of BUDGET", 1, () -> maker.grow(false));
        maker.budget(20000);
        CHECK.due("grow(false)", 1, () -> maker.grow(false));
        CHECK.unchanged("FULL already", facts, maker);
    }

    /** FULL now: no one is MADE behind the first that is not KEPT. */
    private static void isFullWith(PartMaker maker, boolean tests, int made) {
        int came = 0;
        for (int turn = 0; turn < 9 && came == 0; turn++) {
            came = maker.grow(tests);
        }
        int last = came;
        CHECK.due("grow(" + tests + "), FULL now", 1, () -> last);
        CHECK.due("grown(" + tests + ", 0)", tests ? 150 : 300, () -> maker.grown(tests, 0));
        CHECK.due("grown(" + tests + ", 5)", made, () -> maker.grown(tests, 5));
        CHECK.due("all of them, and one", made - 1,
                () -> maker.grown(tests, 0) + maker.grown(tests, 1) + maker.grown(tests, 4));
    }

    private static void the301stByAPartOfOne() {
        CHECK.promise("GROWTH, 'nothing more is MADE': the 301st by a PART of one, more of it and PARTS behind");
        PartMaker maker = Check.ofOne(-9, 0, 0, 0, 4, 0);
        Check.allowOnly(maker, 0, 1, 2, 3, 5, 6, 7, 8, 9);
        maker.budget(20000);
        isFullWith(maker, false, 1999);
    }

    private static void the151stBeforeOthers() {
        CHECK.promise("GROWTH, 'nothing more is MADE': the 151st by < and by not, with others behind");
        PartMaker less = ofThree(-8, -2, -2, -1, 8, 1, 4, -5, 9, -1, 6, -1, 9, 0, -3, 1, 1, -1, -2, 1, 3, -3, -7, 4,
                9, -9, -3, 6, 4, 4, 3, -4, -5, -7, -1, -7);
        Check.allowOnly(less, 1, 2, 3, 5, 6, 8, 9);
        for (int v : new int[] {2, -1, -4, -9, -6}) {
            less.constant(v);
        }
        grow(less, false, 2);
        isFullWith(less, true, 813);
        PartMaker nots = ofThree(8, -7, -8, -2, -2, -1, -6, -2, 1, 3, -3, -8, -7, -1, 9, 6, 7, -4, 2, 2, 7, 1, -2, 2,
                -3, -5, 6, 4, 3, 4, -4, -7, 8, 1, 7, 4);
        Check.allowOnly(nots, 1, 2, 3, 4, 5, 7, 8);
        for (int v : new int[] {9, -3, -6, 4}) {
            nots.constant(v);
        }
        grow(nots, false, 2);
        isFullWith(nots, true, 703);
    }

    private static void fullGoesWithAllThatWasMade() {
        CHECK.promise("GROWTH, FULL goes with all that was MADE");
        PartMaker maker = Check.ofTwelve(1, 0);
        grow(maker, false, 4);
        CHECK.due("grow(false), FULL now", 1, () -> maker.grow(false));
        maker.part(6, false);
        grown(maker, false, 0, 0, 0, 0, 0, 0);
        grow(maker, false, 1);
        grown(maker, false, 5, 0, 1, 0, 0, 5);
    }

    /** x, y, z, -9, 0, 1, 3 and their sizes: 150 unlike TESTS up to SIZE 6. */
    private static PartMaker just150() {
        PartMaker maker = ofThree(-3, 1, -5, -4, 7, -2, 4, 0, 4, -8, 4, -3, 8, -9, -7, -1, -5, -1, 3, -3, 6, -6, 6,
                -8, 3, -6, -3, -2, 9, 7, 0, 7, -4, -2, 6, 6);
        for (int part = 0; part <= 9; part++) {
            maker.part(part, (816 >> part & 1) == 1);
        }
        maker.constant(-9);
        maker.constant(3);
        maker.budget(20000);
        for (int size = 1; size <= 9; size++) {
            maker.grow(false);
        }
        return maker;
    }

    private static void exactly150() {
        CHECK.promise("GROWTH, TESTS 'KEPT, MERGED likewise (150 at most; FULL likewise)'");
        PartMaker maker = just150();
        grow(maker, true, 4);
        CHECK.due("grown(true, 0)", 150, () -> maker.grown(true, 0));
        CHECK.due("grown(true, 3), not yet", 0, () -> maker.grown(true, 3));
        CHECK.due("grown(true, 2)", 6, () -> maker.grown(true, 2));
        int made = maker.grown(true, 5);
        CHECK.due("grown(true, 5)", 150 + maker.grown(true, 1) + maker.grown(true, 4), () -> made);
        CHECK.due("grow(true), the 151st", 1, () -> maker.grow(true));
        CHECK.due("grown(true, 0)", 150, () -> maker.grown(true, 0));
        CHECK.due("grown(true, 2), LEVEL as ahead of it", 6, () -> maker.grown(true, 2));
        CHECK.due("grown(true, 3)", 1, () -> maker.grown(true, 3));
        CHECK.due("grown(true, 5)", 150 + maker.grown(true, 1) + maker.grown(true, 4) + 1,
                () -> maker.grown(true, 5));
        CHECK.refused("kept(true, 150, 0)", Check.ELEMENT, () -> maker.kept(true, 150, 0));
        String facts = Facts.of(maker);
        CHECK.due("grow(true), FULL already", 1, () -> maker.grow(true));
        CHECK.unchanged("nothing more is MADE", facts, maker);
    }

    private static void exactly150AtTheLastLevel() {
        CHECK.promise("GROWTH, FULL at the 151st alone: 150 at LEVEL 7");
        PartMaker maker = ofThree(8, 2, 0, -7, 0, -9, -7, -9, -9, 4, 1, 5, 2, 4, 4, 1, -2, 1, 0, -7, 0, -9, -1, -8,
                8, -9, 3, -4, 2, 5);
        for (int part = 0; part <= 9; part++) {
            maker.part(part, (852 >> part & 1) == 1);
        }
        maker.constant(-9);
        maker.budget(20000);
        for (int size = 1; size <= 9; size++) {
            maker.grow(false);
        }
        grow(maker, true, 5);
        CHECK.due("grown(true, 0)", 150, () -> maker.grown(true, 0));
        CHECK.due("grown(true, 2)", 7, () -> maker.grown(true, 2));
        CHECK.due("grown(true, 3)", 0, () -> maker.grown(true, 3));
        CHECK.due("grow(true), LEVEL 7", 3, () -> maker.grow(true));
    }

    private static void fullIsApart() {
        CHECK.promise("GROWTH, 'TESTS likewise, apart'");
        PartMaker maker = just150();
        CHECK.due("grow(false), FULL", 1, () -> maker.grow(false));
        grow(maker, true, 4);
        CHECK.due("grow(true), FULL", 1, () -> maker.grow(true));
        PartMaker tests = just150();
        tests.part(6, false);
        grow(tests, false, 2);
        grow(tests, true, 4);
        CHECK.due("grow(true), FULL", 1, () -> tests.grow(true));
        CHECK.due("grown(false, 3)", 0, () -> tests.grown(false, 3));
        CHECK.due("grown(false, 2)", 2, () -> tests.grown(false, 2));
        CHECK.due("grow(false)", 0, () -> tests.grow(false));
        CHECK.due("grown(true, 2)", 6, () -> tests.grown(true, 2));
    }

    /** x, 0, 1; -(x), -(1); eight of SIZE 3. */
    private static PartMaker odd(int sizes) {
        PartMaker maker = Check.ofOne(0, 1, 1, 3, 2, 5);
        grow(maker, false, sizes);
        return maker;
    }

    private static void testsOfSizesOneAndTwo() {
        CHECK.promise("GROWTH, '< and = of EXPRESSIONS of SIZE 1 and 2 alone ... SIZE 3 first'");
        PartMaker maker = odd(5);
        grow(maker, true, 1);
        // < 9, = 3
        grown(maker, true, 4, 1, 3, 0, 7, 12);
        grow(maker, true, 1);
        // < 3 by 2 and 2 by 3, = 3 by 2, not 4
        CHECK.due("grown(true, 5), SIZE 4", 12 + 12 + 6 + 4, () -> maker.grown(true, 5));
        int ofFour = maker.ofSize(true, 4);
        grow(maker, true, 1);
        // < 2 by 2, = 1; none with SIZE 3
        CHECK.due("grown(true, 5), SIZE 5", 34 + 4 + 1 + ofFour, () -> maker.grown(true, 5));
        int ofFive = maker.ofSize(true, 5);
        grow(maker, true, 1);
        CHECK.due("grown(true, 5), SIZE 6", 39 + ofFour + ofFive, () -> maker.grown(true, 5));
        int ofSix = maker.ofSize(true, 6);
        grow(maker, true, 1);
        // and: 4 of SIZE 3, each with those above it
        CHECK.due("grown(true, 5), SIZE 7", 39 + ofFour + ofFive + ofSix + 6, () -> maker.grown(true, 5));
    }

    private static void testsOfLaterExpressions() {
        CHECK.promise("GROWTH, 'what is KEPT later comes to no SIZE that was done'");
        PartMaker maker = odd(1);
        grow(maker, true, 2);
        grown(maker, true, 6, 3, 4, 0, 7, 16);
        grow(maker, false, 1);
        grow(maker, true, 1);
        // of SIZE 5: < 4, = 1, not 2; none of SIZE 3 and 4 with what is KEPT now
        CHECK.due("grown(true, 5)", 16 + 4 + 1 + 2, () -> maker.grown(true, 5));
        PartMaker later = odd(0);
        grow(later, true, 1);
        grown(later, true, 0, 0, 3, 0, 0, 0);
        grow(later, false, 2);
        grow(later, true, 1);
        // of SIZE 4: < 6 and 6, = 6
        CHECK.due("grown(true, 5)", 18, () -> later.grown(true, 5));
        CHECK.due("ofSize(true, 3)", 0, () -> later.ofSize(true, 3));
        PartMaker never = odd(0);
        grow(never, true, 5);
        grow(never, false, 3);
        CHECK.due("grow(true), LEVEL 7", 3, () -> never.grow(true));
        grown(never, true, 0, 0, 7, 0, 0, 0);
    }

    private static void testsAboveTheFirst() {
        CHECK.promise("GROWTH, '= (the second's number is above the first's) ... and (the second's number above)'");
        PartMaker maker = Check.ofOne(0, 0, 1, 0);
        Check.allowOnly(maker);
        grow(maker, false, 1);
        // x and 0, 1: x comes to 0 and 1
        grow(maker, true, 1);
        grown(maker, true, 2, 2, 3, 0, 8, 12);
        texts(maker, true, 0, "(x<1)", "(0<x)");
        CHECK.writes("writeMerged(true, 0)", "(x=0)", maker, () -> maker.writeMerged(true, 0));
        CHECK.writes("writeMerged(true, 1)", "(x=1)", maker, () -> maker.writeMerged(true, 1));
        grow(maker, true, 1);
        grown(maker, true, 2, 4, 4, 0, 8, 14);
        grow(maker, true, 3);
        // of two TESTS of SIZE 3 one and, never 1
        grown(maker, true, 2, 4, 7, 0, 9, 15);
    }

    private static void idle() {
        CHECK.promise("GROWTH, 'the same on all EXAMPLES (always 1, or always 0) is not KEPT and not MERGED: IDLE'");
        PartMaker maker = Check.ofOne(5, 0, 6, 0);
        Check.allowOnly(maker);
        maker.constant(6);
        grow(maker, false, 1);
        grow(maker, true, 1);
        // of < 16 and = 6 just x<6 and x=6 tell 5 from 6
        grown(maker, true, 2, 0, 3, 0, 20, 22);
        texts(maker, true, 0, "(x<6)", "(x=6)");
        CHECK.due("testOf(0), always 0", -1, () -> maker.testOf(0));
        CHECK.due("testOf(3), always 1", -1, () -> maker.testOf(3));
        PartMaker one = Check.ofOne(5, 0);
        grow(one, false, 1);
        grow(one, true, 1);
        grown(one, true, 0, 0, 3, 0, 12, 12);
        CHECK.due("grown(false, 4), 0 of EXPRESSIONS", 0, () -> one.grown(false, 4));
    }

    private static void levels() {
        CHECK.promise("promise 9, '3 LEVEL is 9 (EXPRESSIONS), 7 (TESTS) already'; 'TESTS begin with SIZE 3'");
        PartMaker maker = Check.ofOne(3, 4);
        Check.allowOnly(maker);
        for (int level = 0; level < 9; level++) {
            int now = level;
            CHECK.due("grown(false, 2)", now, () -> maker.grown(false, 2));
            grow(maker, false, 1);
        }
        CHECK.due("grown(true, 2), TESTS have their own", 0, () -> maker.grown(true, 2));
        for (int level = 3; level <= 7; level++) {
            int now = level;
            grow(maker, true, 1);
            CHECK.due("grown(true, 2)", now, () -> maker.grown(true, 2));
        }
        String facts = Facts.of(maker);
        CHECK.due("grow(false), LEVEL 9", 3, () -> maker.grow(false));
        CHECK.due("grow(true), LEVEL 7", 3, () -> maker.grow(true));
        CHECK.unchanged("LEVEL 9 and 7", facts, maker);
        maker.budget(1);
        CHECK.due("grow(false), ahead of BUDGET", 3, () -> maker.grow(false));
        CHECK.due("grow(true), ahead of BUDGET", 3, () -> maker.grow(true));
    }

    private static void noExamplesFirst() {
        CHECK.promise("promise 9, '3 there are no EXAMPLES'");
        PartMaker maker = new PartMaker();
        maker.budget(1);
        CHECK.due("grow(false)", 3, () -> maker.grow(false));
        CHECK.due("grow(true)", 3, () -> maker.grow(true));
        maker.example(1, 0, 0, 1);
        CHECK.due("grow(true), nothing to compare", 0, () -> maker.grow(true));
        maker.drop(0);
        CHECK.due("grow(false), gone", 3, () -> maker.grow(false));
        grown(maker, false, 0, 0, 0, 0, 0, 0);
        grown(maker, true, 0, 0, 0, 0, 0, 0);
    }

    private static void budgetOfFirstSize() {
        CHECK.promise("BUDGET, 'where one more would be MADE, it stops'");
        PartMaker maker = Check.ofOne(5, 0);
        for (int budget = 1; budget <= 2; budget++) {
            maker.budget(budget);
            CHECK.due("grow(false) of 3 with " + budget, 2, () -> maker.grow(false));
            grown(maker, false, 0, 0, 0, 0, 0, 0);
        }
        maker.budget(3);
        CHECK.due("grow(false) of 3 with 3", 0, () -> maker.grow(false));
        grown(maker, false, 3, 0, 1, 0, 0, 3);
        maker.budget(11);
        CHECK.due("grow(true) of 12 with 11", 2, () -> maker.grow(true));
        maker.budget(12);
        CHECK.due("grow(true) of 12 with 12", 0, () -> maker.grow(true));
        maker.budget(2);
        CHECK.due("grow(false) of 3 more with 2", 2, () -> maker.grow(false));
        maker.budget(3);
        CHECK.due("grow(false) of 3 more with 3, of this call alone", 0, () -> maker.grow(false));
    }

    private static void budgetAsAhead() {
        CHECK.promise("BUDGET, 'all is as ahead of that SIZE (what is KEPT, MERGED, IDLE, counted as MADE, LEVEL)'");
        PartMaker never = Check.ofTwelve(1, 0);
        grow(never, false, 2);
        grow(never, true, 2);
        never.solve(3);
        PartMaker maker = Check.ofTwelve(1, 0);
        grow(maker, false, 2);
        grow(maker, true, 2);
        maker.solve(3);
        for (boolean tests : new boolean[] {false, true}) {
            String facts = Facts.of(maker);
            int before = never.grown(tests, 5);
            CHECK.due("grow(" + tests + ")", 0, () -> never.grow(tests));
            int more = never.grown(tests, 5) - before;
            for (int budget : new int[] {1, more / 3, more / 2, more - 1}) {
                maker.budget(budget);
                CHECK.due("grow(" + tests + ") of " + more + " with " + budget, 2, () -> maker.grow(tests));
                maker.budget(20000);
                CHECK.unchanged("with " + budget + " of " + more, facts, maker);
            }
            maker.budget(more);
            CHECK.due("grow(" + tests + ") of " + more, 0, () -> maker.grow(tests));
            maker.budget(20000);
            CHECK.unchanged("as if there had been no stop", Facts.of(never), maker);
        }
    }

    private static void budgetOfIdle() {
        CHECK.promise("BUDGET, 'EXPRESSIONS and TESTS, MERGED and IDLE ones, too'");
        PartMaker maker = Check.ofOne(5, 0);
        Check.allowOnly(maker, 8);
        grow(maker, false, 1);
        maker.budget(11);
        CHECK.due("grow(true), 12 IDLE", 2, () -> maker.grow(true));
        grown(maker, true, 0, 0, 0, 0, 0, 0);
        maker.budget(12);
        CHECK.due("grow(true), 12 IDLE", 0, () -> maker.grow(true));
        grown(maker, true, 0, 0, 3, 0, 12, 12);
        maker.budget(2);
        CHECK.due("grow(false), 3 MERGED", 2, () -> maker.grow(false));
        grown(maker, false, 3, 0, 1, 0, 0, 3);
        CHECK.due("kept(false, 0, 1)", 0, () -> maker.kept(false, 0, 1));
        maker.budget(3);
        CHECK.due("grow(false), 3 MERGED", 0, () -> maker.grow(false));
        grown(maker, false, 3, 3, 2, 0, 0, 6);
    }

    private static void budgetOfNothing() {
        CHECK.promise("BUDGET, a SIZE of which nothing is MADE needs none");
        PartMaker maker = Check.ofOne(5, 0);
        Check.allowOnly(maker);
        grow(maker, false, 1);
        maker.budget(1);
        CHECK.due("grow(false), nothing of SIZE 2", 0, () -> maker.grow(false));
        CHECK.due("grown(false, 2)", 2, () -> maker.grown(false, 2));
        PartMaker tests = Check.ofOne(5, 0);
        tests.budget(1);
        CHECK.due("grow(true), nothing to compare", 0, () -> tests.grow(true));
        CHECK.due("grown(true, 2)", 3, () -> tests.grown(true, 2));
    }

    private static void budgetAtFirst() {
        CHECK.promise("promise 1, BUDGET 5,000, as it is needed");
        for (int budget = 4999; budget <= 5000; budget++) {
            PartMaker maker = Check.ofTwo(4, 1, 0, 0, 3, 0);
            for (int part = 0; part <= 9; part++) {
                maker.part(part, (955 >> part & 1) == 1);
            }
            if (budget != 5000) {
                maker.budget(budget);
            }
            grow(maker, false, 7);
            int made = maker.grown(false, 5);
            CHECK.due("grow(false) of 5000 with " + budget, budget == 5000 ? 0 : 2, () -> maker.grow(false));
            CHECK.due("grown(false, 5)", made + (budget == 5000 ? 5000 : 0), () -> maker.grown(false, 5));
        }
    }

    private static void budgetOf20000() {
        CHECK.promise("BUDGET '1 to 20,000', as it is needed");
        PartMaker maker = ofThree(1, 3, -7, -8, -3, 2);
        for (int part = 0; part <= 9; part++) {
            maker.part(part, part >= 3);
        }
        maker.constant(-6);
        maker.constant(-9);
        maker.constant(2);
        maker.budget(19999);
        grow(maker, false, 8);
        int made = maker.grown(false, 5);
        CHECK.due("grow(false) of 20000 with 19999", 2, () -> maker.grow(false));
        CHECK.due("grown(false, 5)", made, () -> maker.grown(false, 5));
        maker.budget(20000);
        CHECK.due("grow(false) of 20000 with 20000", 0, () -> maker.grow(false));
        CHECK.due("grown(false, 5)", made + 20000, () -> maker.grown(false, 5));
        PartMaker more = Check.ofTwo(7, -4, 0, -2, -3, 0);
        Check.allowOnly(more, 3, 6, 7);
        for (int v : new int[] {4, -11, 11, 10, -7, -10, -4}) {
            more.constant(v);
        }
        more.budget(20000);
        grow(more, false, 8);
        CHECK.due("grow(false) of more than 20000", 2, () -> more.grow(false));
        CHECK.due("grown(false, 2)", 8, () -> more.grown(false, 2));
    }

    private static void budgetOrFull() {
        CHECK.promise("promise 9, '2 BUDGET; 1 it is FULL now'");
        PartMaker whole = just300();
        grow(whole, false, 8);
        int before = whole.grown(false, 5);
        CHECK.due("grow(false), FULL now", 1, () -> whole.grow(false));
        int more = whole.grown(false, 5) - before;
        PartMaker maker = just300();
        grow(maker, false, 8);
        maker.budget(Math.max(1, more - 1));
        CHECK.due("more than one is MADE", 1, () -> more > 1 ? 1 : 0);
        CHECK.due("grow(false), the 301st would be one more", 2, () -> maker.grow(false));
        grown(maker, false, 300, 780, 8, 0, 0, 1080);
        maker.budget(more);
        CHECK.due("grow(false), the 301st is the last", 1, () -> maker.grow(false));
        CHECK.due("grown(false, 5)", 1080 + more, () -> maker.grown(false, 5));
    }

    private static void grownAnother() {
        CHECK.promise("promise 10, 'another what'");
        PartMaker maker = odd(2);
        for (boolean tests : new boolean[] {false, true}) {
            CHECK.refusedAll("grown(" + tests + ")", Check.ELEMENT, what -> maker.grown(tests, what), 6, -1, 7,
                    MIN, MAX);
        }
        grown(maker, false, 5, 1, 2, 0, 0, 6);
        grown(maker, true, 0, 0, 0, 0, 0, 0);
    }

    private static void ofSize() {
        CHECK.promise("promise 18");
        PartMaker maker = odd(4);
        grow(maker, true, 5);
        CHECK.dueAll("ofSize(false)", size -> maker.ofSize(false, size), 0, 3, 2, 8, 6, 0);
        CHECK.dueAll("ofSize(true)", size -> maker.ofSize(true, size), 0, 0, 0, 4, maker.grown(true, 0) - 4, 0, 0, 0);
        for (int size : new int[] {-1, 8, 9, 10, 300, MIN, MAX}) {
            CHECK.due("ofSize(false, " + size + ")", 0, () -> maker.ofSize(false, size));
            CHECK.due("ofSize(true, " + size + ")", 0, () -> maker.ofSize(true, size));
        }
        PartMaker last = Check.ofOne(99, 0);
        Check.allowOnly(last, 2);
        grow(last, false, 9);
        CHECK.due("ofSize(false, 9), x to the fifth", 1, () -> last.ofSize(false, 9));
        CHECK.due("ofSize(false, 8)", 0, () -> last.ofSize(false, 8));
        CHECK.due("ofSize(false, 10)", 0, () -> last.ofSize(false, 10));
        CHECK.due("ofSize(false, 1) of nothing grown", 0, () -> new PartMaker().ofSize(false, 1));
    }
}
