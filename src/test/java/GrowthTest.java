/** Promises 9, 10 and 18, and the order of GROWTH: what is MADE, KEPT, MERGED, IDLE. */
public final class GrowthTest {
    private static final Check CHECK = new Check();
    private static final String[] ALL_PARTS_OF_THREE_SIZES = {
        "x", "y", "0", "1",
        "-(x)", "-(y)", "-(1)", "abs(x)", "abs(y)", "sgn(x)", "sgn(y)",
        "(x+x)", "(x+y)", "(x+1)", "(y+y)", "(y+1)", "(1+1)",
        "(x-y)", "(x-1)", "(y-x)", "(y-1)", "(1-x)", "(1-y)",
        "(x*x)", "(x*y)", "(y*y)",
        "min(x,y)", "min(x,0)", "min(x,1)", "min(y,0)", "min(y,1)",
        "max(x,y)", "max(x,0)", "max(x,1)", "max(y,0)", "max(y,1)",
        "-(abs(x))", "-(abs(y))", "-(sgn(x))", "-(sgn(y))",
        "(x/y)"};

    public static void main(String[] args) {
        sizeByKind();
        orderOfParts();
        orderOfSizes();
        orderOfConstants();
        testsBySize();
        testsByTheSizeOfTheFirst();
        notAheadOfAnd();
        fullBehindNots();
        testsOfLaterExpressions();
        lastLevels();
        budgetGoesBack();
        budgetOfTestsGoesBack();
        fullExpressions();
        fullTests();
        oneExample();
        CHECK.end();
    }

    /** KEPT, MERGED, LEVEL, FULL, IDLE, MADE. */
    private static void grown(PartMaker maker, boolean tests, int... due) {
        for (int what = 0; what < due.length; what++) {
            int asked = what;
            CHECK.due("grown(" + tests + ", " + what + ")", due[what], () -> maker.grown(tests, asked));
        }
    }

    private static void texts(PartMaker maker, boolean tests, int from, String... due) {
        for (int i = 0; i < due.length; i++) {
            int k = from + i;
            CHECK.writes("write(" + tests + ", " + k + ")", due[i], maker, () -> maker.write(tests, k));
        }
    }

    private static void sizeByKind() {
        CHECK.promise("promise 9 and 10, EXPRESSIONS of SIZES 1 to 4");
        PartMaker none = new PartMaker();
        CHECK.due("grow(false) without EXAMPLES", 3, () -> none.grow(false));
        CHECK.due("grow(true) without EXAMPLES", 3, () -> none.grow(true));
        PartMaker maker = Check.ofOne(0, 1, 1, 3, 2, 5);
        CHECK.due("grow(false)", 0, () -> maker.grow(false));
        grown(maker, false, 3, 0, 1, 0, 0, 3);
        CHECK.due("grow(false)", 0, () -> maker.grow(false));
        grown(maker, false, 5, 1, 2, 0, 0, 6);
        CHECK.due("grow(false)", 0, () -> maker.grow(false));
        grown(maker, false, 13, 28, 3, 0, 0, 41);
        CHECK.due("grow(false)", 0, () -> maker.grow(false));
        // of SIZE 4: + * min max 6 each, - 12, negative 8
        grown(maker, false, 19, 66, 4, 0, 0, 85);
        CHECK.refused("grown(false, 6)", Check.ELEMENT, () -> maker.grown(false, 6));
        CHECK.refused("grown(true, -1)", Check.ELEMENT, () -> maker.grown(true, -1));
        CHECK.promise("promise 18");
        int[] due = {0, 3, 2, 8, 6, 0};
        for (int size = 0; size < due.length; size++) {
            int asked = size;
            CHECK.due("ofSize(false, " + size + ")", due[size], () -> maker.ofSize(false, asked));
        }
        CHECK.due("ofSize(false, -7)", 0, () -> maker.ofSize(false, -7));
        CHECK.due("ofSize(false, 1000000)", 0, () -> maker.ofSize(false, 1000000));
        CHECK.due("ofSize(true, 3)", 0, () -> maker.ofSize(true, 3));
    }

    private static void orderOfParts() {
        CHECK.promise("GROWTH, all PARTS");
        PartMaker maker = Check.ofTwo(7, 3, 0, -7, 2, 0, 5, -4, 0);
        for (int part = 6; part <= 9; part++) {
            maker.part(part, true);
        }
        maker.grow(false);
        maker.grow(false);
        grown(maker, false, 11, 5, 2, 0, 0, 16);
        maker.grow(false);
        CHECK.due("grown(false, 0)", ALL_PARTS_OF_THREE_SIZES.length, () -> maker.grown(false, 0));
        texts(maker, false, 0, ALL_PARTS_OF_THREE_SIZES);
        PartMaker some = Check.ofTwo(7, 3, 0, -7, 2, 0, 5, -4, 0);
        Check.allowNoPart(some);
        Check.allowPart(some, 8);
        some.grow(false);
        some.grow(false);
        some.grow(false);
        grown(some, false, 6, 4, 3, 0, 0, 10);
        texts(some, false, 4, "abs(x)", "abs(y)");
    }

    private static void orderOfSizes() {
        CHECK.promise("GROWTH, by the SIZE of the first");
        PartMaker maker = Check.ofOne(0, 1, 1, 3, 2, 5);
        for (int size = 1; size <= 5; size++) {
            maker.grow(false);
        }
        texts(maker, false, 13, "(-(x)-x)", "(-(x)-1)", "(-(1)-1)", "(x*-(x))", "-(min(x,1))",
                "-(max(x,1))", "(x+(x+x))", "(x+(x+1))");
        CHECK.writes("writeMerged(false, 14)", "(-(1)-x)", maker, () -> maker.writeMerged(false, 14));
    }

    private static void orderOfConstants() {
        CHECK.promise("GROWTH, INPUTS and CONSTANTS");
        PartMaker maker = new PartMaker();
        maker.many(3);
        maker.constant(5);
        maker.constant(-99);
        maker.example(5, 2, 2, 0);
        maker.example(6, 3, 3, 0);
        CHECK.due("grow(false)", 0, () -> maker.grow(false));
        // z comes to the same as y
        grown(maker, false, 6, 1, 1, 0, 0, 7);
        texts(maker, false, 0, "x", "y", "-99", "0", "1", "5");
        CHECK.writes("writeMerged(false, 1)", "z", maker, () -> maker.writeMerged(false, 1));
    }

    /** x -4, 0, 4, 5, -6 comes to -5, 7, 5, 5, -5. */
    static PartMaker steps() {
        PartMaker maker = Check.ofOne(-4, -5, 0, 7, 4, 5, 5, 5, -6, -5);
        Check.allowNoPart(maker);
        maker.constant(-5);
        maker.constant(5);
        maker.constant(7);
        return maker;
    }

    private static void testsBySize() {
        CHECK.promise("promises 9 and 10, TESTS of SIZES 3 to 7");
        PartMaker maker = steps();
        maker.grow(false);
        grown(maker, false, 6, 0, 1, 0, 0, 6);
        CHECK.due("grow(true), SIZE 3", 0, () -> maker.grow(true));
        grown(maker, true, 8, 1, 3, 0, 42, 51);
        texts(maker, true, 0, "(x<-5)", "(x<0)", "(x<1)", "(x<5)", "(-5<x)", "(0<x)", "(x=0)", "(x=5)");
        CHECK.due("grow(true), SIZE 4", 0, () -> maker.grow(true));
        grown(maker, true, 10, 7, 4, 0, 42, 59);
        texts(maker, true, 8, "!((x<0))", "!((x=0))");
        CHECK.due("grow(true), SIZE 5", 0, () -> maker.grow(true));
        grown(maker, true, 10, 9, 5, 0, 42, 61);
        CHECK.due("grow(true), SIZE 6", 0, () -> maker.grow(true));
        grown(maker, true, 10, 9, 6, 0, 42, 61);
        CHECK.due("grow(true), SIZE 7", 0, () -> maker.grow(true));
        // of two 28: 4 KEPT, 12 MERGED, 12 IDLE
        texts(maker, true, 10, "((x<0)&(-5<x))", "((x<1)&(-5<x))", "((x<5)&(-5<x))", "((x<5)&(0<x))");
        CHECK.due("ofSize(true, 3)", 8, () -> maker.ofSize(true, 3));
        CHECK.due("ofSize(true, 4)", 2, () -> maker.ofSize(true, 4));
        CHECK.due("ofSize(true, 7)", 4, () -> maker.ofSize(true, 7));
        grown(maker, true, 14, 21, 7, 0, 54, 89);
        CHECK.due("grow(true), LEVEL 7", 3, () -> maker.grow(true));
    }

    private static void testsByTheSizeOfTheFirst() {
        CHECK.promise("GROWTH, '‹ (by the SIZE of the first, numbers), = (...), not'");
        PartMaker maker = Check.ofOne(-3, 0, -1, 0, 0, 0, 1, 0, 2, 0, 4, 0);
        Check.allowOnly(maker, 5);
        maker.constant(2);
        Check.grow(maker, false, 2);
        Check.grow(maker, true, 2);
        grown(maker, true, 17, 17, 4, 0, 33, 67);
        texts(maker, true, 9, "(x<-(1))", "(-(x)<1)", "(-(x)<2)", "(x=-(1))", "!((2<x))", "!((x=0))", "!((x=1))",
                "!((x=2))");
        // the first that was MERGED has its first of SIZE 1 where there is any
        String[] first = {"(x<-(x))", "!((0<x))", "!((1<x))", "(-(x)<x)", "!((x<2))"};
        for (int k = 0; k < first.length; k++) {
            int told = k;
            CHECK.writes("writeMerged(true, " + k + ")", first[k], maker, () -> maker.writeMerged(true, told));
        }
        CHECK.due("writeMerged(true, 5)", -1, () -> maker.writeMerged(true, 5));
        CHECK.writes("writeMerged(true, 10)", "(-(1)<x)", maker, () -> maker.writeMerged(true, 10));
    }

    /** SIZE 7 is the only one with both: its nots are of TESTS of SIZE 6, its ands of two of SIZE 3. */
    private static void notAheadOfAnd() {
        CHECK.promise("GROWTH, 'not, and (...) in this order'");
        PartMaker maker = Check.ofTwo(-1, 5, 0, 5, 3, 0, 2, 0, 0);
        Check.allowOnly(maker, 9);
        Check.grow(maker, false, 2);
        Check.grow(maker, true, 4);
        grown(maker, true, 6, 28, 6, 0, 22, 56);
        texts(maker, true, 4, "(sgn(x)=sgn(y))", "!((sgn(x)=sgn(y)))");
        CHECK.due("writeMerged(true, 4), SIZE 6", -1, () -> maker.writeMerged(true, 4));
        CHECK.due("grow(true), SIZE 7", 0, () -> maker.grow(true));
        // one not and six ands; (y<x)&(0<y) is MERGED with the same one, but behind the not
        grown(maker, true, 6, 32, 7, 0, 25, 63);
        CHECK.due("kept(true, 4, 1)", 2, () -> maker.kept(true, 4, 1));
        CHECK.writes("writeMerged(true, 4)", "!(!((sgn(x)=sgn(y))))", maker, () -> maker.writeMerged(true, 4));
    }

    private static void fullBehindNots() {
        CHECK.promise("GROWTH, 'not, and (...) in this order', FULL among the ands");
        PartMaker maker = new PartMaker();
        maker.many(3);
        Check.allowOnly(maker, 7, 8, 9);
        maker.constant(-3);
        int[] told = {-3, 5, 6, 0, 1, -4, 4, -4, -6, -1, -5, -4, 1, -1, -1, 4, 6, 1, 1, -6, 1, -3, 2, 1, -5, 5, 5,
            3, 1, -1};
        for (int i = 0; i < told.length; i += 3) {
            maker.example(told[i], told[i + 1], told[i + 2], 0);
        }
        Check.grow(maker, false, 2);
        Check.grow(maker, true, 4);
        grown(maker, true, 136, 152, 6, 0, 120, 408);
        CHECK.due("ofSize(true, 6)", 15, () -> maker.ofSize(true, 6));
        CHECK.due("grow(true), FULL", 1, () -> maker.grow(true));
        // 15 nots, all MERGED, are MADE ahead of the 151st
        grown(maker, true, 150, 281, 6, 1, 175, 607);
        texts(maker, true, 136, "((x<y)&(z<x))");
        texts(maker, true, 149, "((y<-3)&(z<y))");
    }

    private static void testsOfLaterExpressions() {
        CHECK.promise("GROWTH of TESTS, of what is KEPT as it comes to a SIZE");
        PartMaker maker = Check.ofOne(0, 1, 1, 3, 2, 5);
        CHECK.due("grow(true), SIZE 3 of nothing", 0, () -> maker.grow(true));
        grown(maker, true, 0, 0, 3, 0, 0, 0);
        maker.grow(false);
        CHECK.due("grow(true), SIZE 4", 0, () -> maker.grow(true));
        grown(maker, true, 0, 0, 4, 0, 0, 0);
        maker.grow(false);
        maker.grow(false);
        CHECK.due("grow(true), SIZE 5", 0, () -> maker.grow(true));
        grown(maker, true, 3, 0, 5, 0, 2, 5);
        texts(maker, true, 0, "(-(x)<-(1))", "(-(1)<-(x))", "(-(x)=-(1))");
        CHECK.due("grow(true), SIZE 6", 0, () -> maker.grow(true));
        texts(maker, true, 3, "!((-(x)<-(1)))");

        PartMaker both = Check.ofOne(0, 1, 1, 3, 2, 5);
        both.grow(false);
        both.grow(false);
        both.grow(false);
        both.grow(true);
        grown(both, true, 4, 1, 3, 0, 7, 12);
        texts(both, true, 0, "(x<1)", "(0<x)", "(1<x)", "(x=1)");
        both.grow(true);
        // ‹ 6 with the first of SIZE 1, 6 of SIZE 2, = 6 (of SIZE 1 and 2 alone), not 4
        CHECK.due("grown(true, 5)", 12 + 22, () -> both.grown(true, 5));
        CHECK.writes("write(true, 4)", "!((1<x))", both, () -> both.write(true, 4));
        CHECK.writes("write(true, 5)", "!((x=1))", both, () -> both.write(true, 5));
    }

    private static void lastLevels() {
        CHECK.promise("promise 9, the last LEVEL");
        PartMaker maker = Check.ofOne(3, 4);
        Check.allowNoPart(maker);
        for (int size = 1; size <= 9; size++) {
            CHECK.due("grow(false), SIZE " + size, 0, () -> maker.grow(false));
        }
        CHECK.due("grow(false), LEVEL 9", 3, () -> maker.grow(false));
        CHECK.due("grown(false, 2)", 9, () -> maker.grown(false, 2));
        maker.budget(1);
        CHECK.due("grow(false), LEVEL 9 ahead of BUDGET", 3, () -> maker.grow(false));
        CHECK.due("grow(true), BUDGET", 2, () -> maker.grow(true));
        CHECK.due("grown(true, 2)", 0, () -> maker.grown(true, 2));
    }

    private static void budgetGoesBack() {
        CHECK.promise("promise 9, BUDGET");
        PartMaker maker = Check.ofOne(0, 1, 1, 3, 2, 5);
        maker.budget(2);
        CHECK.due("grow(false) of 3", 2, () -> maker.grow(false));
        grown(maker, false, 0, 0, 0, 0, 0, 0);
        maker.budget(3);
        CHECK.due("grow(false) of 3", 0, () -> maker.grow(false));
        CHECK.due("grow(false) of 3 more", 0, () -> maker.grow(false));
        maker.budget(34);
        CHECK.due("grow(false) of 35", 2, () -> maker.grow(false));
        grown(maker, false, 5, 1, 2, 0, 0, 6);
        CHECK.due("kept(false, 0, 1)", 0, () -> maker.kept(false, 0, 1));
        CHECK.due("kept(false, 1, 1)", 1, () -> maker.kept(false, 1, 1));
        CHECK.due("writeMerged(false, 0)", -1, () -> maker.writeMerged(false, 0));
        CHECK.writes("writeMerged(false, 1)", "-(0)", maker, () -> maker.writeMerged(false, 1));
        CHECK.due("joins(0, 0, 0)", -1, () -> maker.joins(0, 0, 0));
        CHECK.due("ofSize(false, 3)", 0, () -> maker.ofSize(false, 3));
        CHECK.refused("kept(false, 5, 0)", Check.ELEMENT, () -> maker.kept(false, 5, 0));
        maker.budget(35);
        CHECK.due("grow(false) of 35", 0, () -> maker.grow(false));
        grown(maker, false, 13, 28, 3, 0, 0, 41);
        CHECK.writes("writeMerged(false, 0)", "(x+0)", maker, () -> maker.writeMerged(false, 0));
    }

    private static void budgetOfTestsGoesBack() {
        CHECK.promise("promise 9, BUDGET of TESTS");
        PartMaker maker = steps();
        maker.grow(false);
        maker.budget(50);
        CHECK.due("grow(true) of 51", 2, () -> maker.grow(true));
        grown(maker, true, 0, 0, 0, 0, 0, 0);
        CHECK.due("testOf(12)", -1, () -> maker.testOf(12));
        maker.budget(51);
        CHECK.due("grow(true) of 51", 0, () -> maker.grow(true));
        maker.budget(7);
        CHECK.due("grow(true) of 8", 2, () -> maker.grow(true));
        grown(maker, true, 8, 1, 3, 0, 42, 51);
        CHECK.due("kept(true, 4, 1)", 0, () -> maker.kept(true, 4, 1));
        CHECK.due("kept(true, 5, 1)", 1, () -> maker.kept(true, 5, 1));
        CHECK.due("testOf(14)", -1, () -> maker.testOf(14));
    }

    /** GROWTH till it is FULL: what was MADE ahead of the SIZE and in all. */
    private static int[] growToFull(PartMaker maker, boolean tests) {
        int before = 0;
        int came = 0;
        for (int turn = 0; turn < 9 && came == 0; turn++) {
            before = maker.grown(tests, 5);
            came = maker.grow(tests);
        }
        return new int[] {came, before, maker.grown(tests, 5)};
    }

    private static void isFull(PartMaker maker, boolean tests, int most, int[] came) {
        CHECK.due("grow, FULL now", 1, () -> came[0]);
        CHECK.due("grown 0", most, () -> maker.grown(tests, 0));
        CHECK.due("grown 3", 1, () -> maker.grown(tests, 3));
        CHECK.due("grown 5: the one that is not KEPT is MADE",
                most + maker.grown(tests, 1) + maker.grown(tests, 4) + 1, () -> maker.grown(tests, 5));
        CHECK.due("kept of the last, SIZE above LEVEL", maker.grown(tests, 2) + 1,
                () -> maker.kept(tests, most - 1, 0));
        int level = maker.grown(tests, 2);
        maker.budget(1);
        CHECK.due("grow, FULL already, ahead of BUDGET", 1, () -> maker.grow(tests));
        CHECK.due("grown 2, as before", level, () -> maker.grown(tests, 2));
        CHECK.due("grown 5, as before", came[2], () -> maker.grown(tests, 5));
    }

    private static PartMaker wide() {
        PartMaker maker = new PartMaker();
        maker.many(3);
        for (int e = 0; e < 12; e++) {
            maker.example(e - 6, e * e % 11 - 4, e * 7 % 13 - 5, e);
        }
        maker.constant(2);
        maker.constant(-3);
        maker.budget(20000);
        return maker;
    }

    private static void fullExpressions() {
        CHECK.promise("promise 9, FULL");
        PartMaker maker = wide();
        int[] came = growToFull(maker, false);
        isFull(maker, false, 300, came);
        maker.constant(0);
        CHECK.due("grown(false, 3), gone", 0, () -> maker.grown(false, 3));
        maker.budget(20000);
        int[] more = growToFull(maker, false);
        CHECK.due("grown(false, 5), FULL anew", came[2], () -> more[2]);

        CHECK.promise("promise 9, FULL and BUDGET");
        PartMaker again = wide();
        for (int size = 0; size < maker.grown(false, 2); size++) {
            again.grow(false);
        }
        again.budget(came[2] - came[1] - 1);
        CHECK.due("grow(false), one too few", 2, () -> again.grow(false));
        CHECK.due("grown(false, 3)", 0, () -> again.grown(false, 3));
        CHECK.due("grown(false, 5)", came[1], () -> again.grown(false, 5));
        again.budget(came[2] - came[1]);
        CHECK.due("grow(false), just enough", 1, () -> again.grow(false));
        CHECK.due("grown(false, 0)", 300, () -> again.grown(false, 0));
    }

    private static void fullTests() {
        CHECK.promise("promise 9, FULL TESTS");
        PartMaker maker = wide();
        maker.grow(false);
        maker.grow(false);
        int[] came = growToFull(maker, true);
        isFull(maker, true, 150, came);
        maker.budget(20000);
        CHECK.due("grow(false), not FULL", 0, () -> maker.grow(false));
    }

    private static void oneExample() {
        CHECK.promise("GROWTH of TESTS, IDLE");
        PartMaker maker = Check.ofOne(3, 4);
        maker.grow(false);
        CHECK.due("grow(true)", 0, () -> maker.grow(true));
        grown(maker, true, 0, 0, 3, 0, 12, 12);
    }
}
