/**
 * FITS, SOLVED and promises 26 to 41: each sentence that names a limit has a test here, at the last
 * number that is in and at the first that is out.
 */
public final class ProgramsLimitsTest {
    private static final int MIN = Integer.MIN_VALUE;
    private static final int MAX = Integer.MAX_VALUE;
    private static final int[] NO_INPUTS = {100, -100, 1000, MIN, MAX};
    private static final int[] NOT_THERE = {1, -1, 99, -99, MIN, MAX};
    private static final int[] NO_IFS = {-1, 4, 5, -4, MIN, MAX};
    private static final int[] NO_PARTS = {-1, 10, 16, 32, MIN, MAX};
    private static final Check CHECK = new Check();

    public static void main(String[] args) {
        ifsAreNone();
        noExamples();
        ifsWithinOneAnother();
        mostIfs();
        nineEnds();
        deepestBehindThen();
        oneIfLess();
        expressionAheadOfIf();
        leastNumbers();
        bothHaveSome();
        nothingKept();
        solvedStays();
        solvedGoes();
        makeSolvesFirst();
        makeByTurns();
        makeWithoutIfs();
        makeBudgetOfAll();
        makeBudgetUsedUp();
        makeNone();
        makeFull();
        makeFullNow();
        solvedAnother();
        comesInputs();
        writeSolvedNone();
        leafNoneSuch();
        apartNoneSuch();
        apartEdges();
        apartOfTwoAndThree();
        apartOfTheLatest();
        withoutNone();
        withoutPart();
        tiesAtMost();
        tiesWithoutAny();
        neededNone();
        solvedUsesNoPart();
        wayBehind();
        wayInputs();
        isIdleNoneSuch();
        isIdleOfOneAlone();
        fitsSets();
        fitsLeastNumber();
        fewestEdges();
        splitsSets();
        splitsLeastNumber();
        byWhatIsKeptNow();
        whatIsGoneCountsForNothing();
        setsWithAll300();
        CHECK.end();
    }

    /** x 5, 15, 25 and so on: each has an end of its own, 10, 20 to 80 and 0. */
    private static PartMaker ends(int count) {
        PartMaker maker = new PartMaker();
        for (int e = 0; e < count; e++) {
            maker.example(10 * e + 5, 0, 0, e < 8 ? 10 * e + 10 : 0);
        }
        Check.allowNoPart(maker);
        for (int v = 10; v <= 80; v += 10) {
            maker.constant(v);
        }
        maker.grow(false);
        maker.grow(true);
        return maker;
    }

    /** SOLVED as [(x<0)?-5:[(x<1)?7:5]]: TESTS 1 and 2, EXPRESSIONS 1, 5, 4. */
    private static PartMaker steps() {
        PartMaker maker = GrowthTest.steps();
        maker.make(2);
        return maker;
    }

    private static void ifsAreNone() {
        CHECK.promise("promises 26, 27, 33, 34, 'ifs within one another (0 to 3)'");
        PartMaker maker = steps();
        String facts = Facts.of(maker);
        CHECK.refusedAll("solve", Check.ARGUMENT, maker::solve, NO_IFS);
        CHECK.refusedAll("make", Check.ARGUMENT, maker::make, NO_IFS);
        CHECK.refusedAll("without", Check.ARGUMENT, ifs -> maker.without(0, ifs), NO_IFS);
        CHECK.refusedAll("ties", Check.ARGUMENT, maker::ties, NO_IFS);
        CHECK.unchanged("refused", facts, maker);
        CHECK.dueAll("solve", maker::solve, -1, -1, 11, 11);
        CHECK.dueAll("without", ifs -> maker.without(0, ifs), -1, -1, 11, 11);
        CHECK.dueAll("ties", maker::ties, 0, 0, 10, 10);
        CHECK.due("make(3)", 11, () -> maker.make(3));
        PartMaker none = Check.ofOne(3, 3);
        CHECK.due("make(0)", 1, () -> none.make(0));
    }

    private static void noExamples() {
        CHECK.promise("promises 26, 27, 33 to 35, 'there are no EXAMPLES'");
        PartMaker gone = Check.ofOne(3, 3);
        gone.make(0);
        gone.drop(0);
        for (PartMaker maker : new PartMaker[] {new PartMaker(), gone}) {
            for (int n = 0; n <= 3; n++) {
                int ifs = n;
                CHECK.refused("solve(" + ifs + ")", Check.STATE, () -> maker.solve(ifs));
                CHECK.refused("make(" + ifs + ")", Check.STATE, () -> maker.make(ifs));
                CHECK.refused("without(9, " + ifs + ")", Check.STATE, () -> maker.without(9, ifs));
                CHECK.refused("ties(" + ifs + ")", Check.STATE, () -> maker.ties(ifs));
            }
            CHECK.refused("needed()", Check.STATE, () -> maker.needed());
        }
        PartMaker one = Check.ofOne(3, 3);
        CHECK.due("solve(0) with one EXAMPLE", -1, () -> one.solve(0));
        CHECK.due("ties(0) with one EXAMPLE", 0, () -> one.ties(0));
        CHECK.due("needed() with one EXAMPLE", -1, () -> one.needed());
        CHECK.due("without(0, 0) with one EXAMPLE", -1, () -> one.without(0, 0));
    }

    private static void ifsWithinOneAnother() {
        CHECK.promise("FITS, 'At most 3 ifs within one another'");
        int[] needed = {0, 1, 2, 2, 3, 3, 3, 3, -1};
        for (int count = 1; count <= 9; count++) {
            PartMaker maker = ends(count);
            int least = needed[count - 1];
            CHECK.due("needed() of " + count, least, () -> maker.needed());
            for (int n = 0; n <= 3; n++) {
                int ifs = n;
                boolean is = least >= 0 && ifs >= least;
                CHECK.due("solve(" + ifs + ") of " + count, is ? 5 * count - 4 : -1, () -> maker.solve(ifs));
                CHECK.due("count(6)", is ? 1 : 0, () -> maker.count(6));
                if (is) {
                    CHECK.due("solved(1)", count - 1, () -> maker.solved(1));
                    CHECK.due("solved(2)", 1, () -> maker.solved(2) >= least && maker.solved(2) <= ifs ? 1 : 0);
                    CHECK.due("solved(3)", count, () -> maker.solved(3));
                }
            }
        }
    }

    private static void mostIfs() {
        CHECK.promise("FITS, 3 ifs within one another, 7 in all");
        PartMaker maker = ends(8);
        maker.solve(3);
        CHECK.writes("writeSolved()", "[(x<40)?[(x<20)?[(x<10)?10:20]:[(x<30)?30:40]]"
                + ":[(x<60)?[(x<50)?50:60]:[(x<70)?70:80]]]", maker, () -> maker.writeSolved());
        CHECK.dueAll("solved", maker::solved, 36, 7, 3, 8, Check.numberOf(maker, true, "(x<40)"), -1);
        CHECK.dueAll("leaf", maker::leaf, 3, 4, 5, 6, 7, 8, 9, 10);
        int[] due = {Check.numberOf(maker, true, "(x<40)") * 2, Check.numberOf(maker, true, "(x<60)") * 2,
            Check.numberOf(maker, true, "(x<70)") * 2};
        CHECK.dueAll("way of 75", k -> maker.way(75, 0, 0, k), due[0], due[1], due[2], -1, -1);
        for (int e = 0; e < 8; e++) {
            int asked = e;
            CHECK.due("comes of EXAMPLE " + e, maker.told(e, 3), () -> maker.comes(maker.told(asked, 0), 0, 0));
            CHECK.is("isIdle(" + e + ")", false, () -> maker.isIdle(asked));
        }
    }

    private static void nineEnds() {
        CHECK.promise("FITS, nine ends are too many for 3 ifs within one another");
        PartMaker maker = ends(9);
        CHECK.due("fewest()", 9, () -> maker.fewest());
        CHECK.due("ties(3)", 0, () -> maker.ties(3));
        CHECK.due("without(0, 3)", -1, () -> maker.without(0, 3));
        CHECK.due("make(3)", -1, () -> maker.make(3));
        CHECK.due("grown(false, 2)", 9, () -> maker.grown(false, 2));
        CHECK.due("grown(true, 2)", 7, () -> maker.grown(true, 2));
        CHECK.refused("solved(0)", Check.STATE, () -> maker.solved(0));
    }

    private static void deepestBehindThen() {
        CHECK.promise("promise 28, 'the most ifs within one another', each behind then");
        PartMaker maker = new PartMaker();
        maker.many(3);
        maker.example(-5, 5, 5, 20);
        maker.example(5, 9, 9, 30);
        maker.example(6, 9, 2, 40);
        maker.example(7, 1, 1, 50);
        Check.allowNoPart(maker);
        maker.constants();
        CHECK.due("make(3)", 16, () -> maker.make(3));
        CHECK.writes("writeSolved()", "[(x<y)?[(x<z)?[(x<0)?20:30]:40]:50]", maker, () -> maker.writeSolved());
        CHECK.due("solved(1)", 3, () -> maker.solved(1));
        CHECK.due("solved(2)", 3, () -> maker.solved(2));
        CHECK.due("solve(2)", 16, () -> maker.solve(2));
        CHECK.due("solved(2)", 2, () -> maker.solved(2));
    }

    private static void oneIfLess() {
        CHECK.promise("FITS, 'with one if less within one another'");
        // 5, 15, 25, 35, 45 and five ends: of 2 ifs a side of three ends has no PROGRAM
        PartMaker maker = ends(5);
        CHECK.due("solve(2)", -1, () -> maker.solve(2));
        CHECK.due("solve(3)", 21, () -> maker.solve(3));
        CHECK.writes("writeSolved()", "[(x<10)?10:[(x<30)?[(x<20)?20:30]:[(x<40)?40:50]]]", maker,
                () -> maker.writeSolved());
        PartMaker three = ends(3);
        CHECK.due("solve(1)", -1, () -> three.solve(1));
        CHECK.due("solve(2)", 11, () -> three.solve(2));
        CHECK.writes("writeSolved()", "[(x<10)?10:[(x<20)?20:30]]", three, () -> three.writeSolved());
    }

    private static void expressionAheadOfIf() {
        CHECK.promise("FITS, 'of the least SIZE; of several: one EXPRESSION ahead of an if'");
        PartMaker maker = Check.ofOne(3, 1, -2, -2);
        Check.allowOnly(maker, 4, 5);
        Check.grow(maker, false, 5);
        Check.grow(maker, true, 1);
        CHECK.dueAll("solve, SIZES to 5", maker::solve, -1, 6, 6, 6);
        CHECK.due("solved(1), an if", 1, () -> maker.solved(1));
        maker.grow(false);
        CHECK.dueAll("solve, SIZES to 6", maker::solve, 6, 6, 6, 6);
        CHECK.due("solved(1), an EXPRESSION", 0, () -> maker.solved(1));
        CHECK.due("solved(4)", -1, () -> maker.solved(4));
        CHECK.dueAll("ties", maker::ties, 1, 3, 3, 3);
        PartMaker less = Check.ofOne(-2, 0, 2, 1, -3, 0);
        Check.allowOnly(less, 1, 9);
        Check.grow(less, false, 7);
        Check.grow(less, true, 1);
        CHECK.dueAll("solve, EXPRESSION of 7, if of 6", less::solve, 7, 6, 6, 6);
        CHECK.due("solved(1), an if", 1, () -> less.solved(1));
    }

    private static void leastNumbers() {
        CHECK.promise("FITS, 'of EXPRESSIONS the least number; of ifs the least number of TEST, then the first then'");
        PartMaker maker = Check.ofOne(3, 3, 8, 5);
        Check.allowNoPart(maker);
        maker.constant(3);
        maker.constant(5);
        Check.grow(maker, false, 1);
        Check.grow(maker, true, 1);
        CHECK.due("solve(1)", 6, () -> maker.solve(1));
        // x and 3 FIT the first one; x<5, 3<x, 5<x, x=3 tell both apart
        CHECK.writes("writeSolved()", "[(x<5)?x:5]", maker, () -> maker.writeSolved());
        CHECK.due("solved(4)", 0, () -> maker.solved(4));
        CHECK.due("ties(1), two TESTS with two EXPRESSIONS each", 4, () -> maker.ties(1));
        PartMaker both = Check.ofOne(5, 5, 8, 8, 0, 1);
        Check.allowNoPart(both);
        both.constant(5);
        both.constant(8);
        Check.grow(both, false, 1);
        Check.grow(both, true, 1);
        CHECK.due("solve(3)", 6, () -> both.solve(3));
        CHECK.writes("writeSolved()", "[(x<1)?1:x]", both, () -> both.writeSolved());
    }

    private static void bothHaveSome() {
        CHECK.promise("FITS, 'others; both must have some'");
        // behind x<10 each TEST of above has no EXAMPLE on one side
        PartMaker maker = ends(2);
        CHECK.due("solve(3)", 6, () -> maker.solve(3));
        CHECK.due("ties(1)", 2, () -> maker.ties(1));
        CHECK.due("ties(3)", 2, () -> maker.ties(3));
        PartMaker one = ends(1);
        CHECK.due("solve(3) of one", 1, () -> one.solve(3));
        CHECK.due("ties(3) of one", 1, () -> one.ties(3));
    }

    private static void nothingKept() {
        CHECK.promise("promise 26, 'NONE: there is none'");
        PartMaker maker = Check.ofOne(3, 3);
        CHECK.dueAll("solve, nothing grown", maker::solve, -1, -1, -1, -1);
        maker.grow(true);
        CHECK.dueAll("solve, nothing KEPT", maker::solve, -1, -1, -1, -1);
        CHECK.due("count(6)", 0, () -> maker.count(6));
        maker.grow(false);
        CHECK.dueAll("solve", maker::solve, 1, 1, 1, 1);
        CHECK.due("count(6)", 1, () -> maker.count(6));
    }

    private static void solvedStays() {
        CHECK.promise("FITS, 'SOLVED stays, as more grows, till solve(), make() again'");
        PartMaker maker = Check.ofOne(3, 1, -2, -2);
        Check.allowOnly(maker, 4, 5);
        Check.grow(maker, false, 5);
        Check.grow(maker, true, 1);
        maker.solve(1);
        maker.grow(false);
        maker.grow(true);
        maker.without(5, 3);
        maker.ties(3);
        maker.needed();
        maker.fewest();
        maker.isIdle(0);
        maker.budget(1);
        CHECK.due("grow(false), BUDGET", 2, () -> maker.grow(false));
        CHECK.writes("writeSolved(), stays", "[(x<0)?x:1]", maker, () -> maker.writeSolved());
        CHECK.refused("solve(4)", Check.ARGUMENT, () -> maker.solve(4));
        CHECK.refused("make(-1)", Check.ARGUMENT, () -> maker.make(-1));
        CHECK.writes("writeSolved(), stays as refused", "[(x<0)?x:1]", maker, () -> maker.writeSolved());
        CHECK.due("make(1) asks solve(1) first", 6, () -> maker.make(1));
        CHECK.writes("writeSolved(), anew", "-(max(-(x),-(1)))", maker, () -> maker.writeSolved());
    }

    private static void isGone(PartMaker maker) {
        CHECK.due("count(6)", 0, () -> maker.count(6));
        CHECK.refused("solved(0)", Check.STATE, () -> maker.solved(0));
        CHECK.refused("comes", Check.STATE, () -> maker.comes(0, 0, 0));
        CHECK.refused("writeSolved()", Check.STATE, () -> maker.writeSolved());
        CHECK.refused("leaf(0)", Check.STATE, () -> maker.leaf(0));
        CHECK.refused("apart(0, 0)", Check.STATE, () -> maker.apart(0, 0));
        CHECK.refused("solvedUses(0)", Check.STATE, () -> maker.solvedUses(0));
        CHECK.refused("way(0, 0, 0, 0)", Check.STATE, () -> maker.way(0, 0, 0, 0));
        CHECK.refused("isIdle(0)", Check.STATE, () -> maker.isIdle(0) ? 1 : 0);
    }

    private static void solvedGoes() {
        CHECK.promise("FITS, 'or it goes; where these come to no PROGRAM, none is SOLVED'");
        isGone(new PartMaker());
        PartMaker maker = steps();
        maker.solve(1);
        isGone(maker);
        CHECK.due("solve(2), it is SOLVED again", 11, () -> maker.solve(2));
        CHECK.due("make(1), NONE", -1, () -> maker.make(1));
        isGone(maker);
        PartMaker short1 = steps();
        short1.budget(1);
        CHECK.due("make(1), BUDGET", -2, () -> short1.make(1));
        isGone(short1);
        PartMaker byMany = steps();
        byMany.many(1);
        isGone(byMany);
        PartMaker byExample = steps();
        byExample.example(50, 0, 0, 5);
        isGone(byExample);
        PartMaker byDrop = steps();
        byDrop.drop(4);
        isGone(byDrop);
        PartMaker byPart = steps();
        byPart.part(9, false);
        isGone(byPart);
        PartMaker byConstant = steps();
        byConstant.constant(5);
        isGone(byConstant);
        PartMaker byConstants = steps();
        byConstants.constants();
        isGone(byConstants);
    }

    private static void makeSolvesFirst() {
        CHECK.promise("promise 27, 'solve(ifs) is asked first of all, too'");
        PartMaker maker = steps();
        int made = maker.grown(false, 5) + maker.grown(true, 5);
        maker.budget(1);
        CHECK.due("make(2), SOLVED already, with BUDGET 1", 11, () -> maker.make(2));
        CHECK.due("make(3), SOLVED already", 11, () -> maker.make(3));
        CHECK.due("nothing is MADE", made, () -> maker.grown(false, 5) + maker.grown(true, 5));
        PartMaker nothing = Check.ofOne(3, 3);
        nothing.budget(3);
        CHECK.due("make(0), SIZE 1 of 3", 1, () -> nothing.make(0));
        PartMaker less = Check.ofOne(3, 3);
        less.budget(2);
        CHECK.due("make(0), 3 with 2", -2, () -> less.make(0));
        CHECK.due("grown(false, 0)", 0, () -> less.grown(false, 0));
    }

    private static void makeByTurns() {
        CHECK.promise("promise 27, 'EXPRESSIONS first, then solve(ifs), then TESTS, then solve(ifs), and so on'");
        PartMaker first = Check.ofOne(3, 3, 4, 4);
        first.make(3);
        CHECK.due("SOLVED behind EXPRESSIONS: no TESTS", 0, () -> first.grown(true, 2));
        CHECK.due("EXPRESSIONS of SIZE 1 alone", 1, () -> first.grown(false, 2));
        PartMaker second = Check.ofOne(3, 1, 4, 0);
        second.constant(4);
        second.make(3);
        CHECK.due("SOLVED behind TESTS", 3, () -> second.grown(true, 2));
        CHECK.due("EXPRESSIONS of SIZE 1 alone", 1, () -> second.grown(false, 2));
        // -(x) and TESTS of SIZE 3 come ahead of SIZE 3
        PartMaker third = Check.ofOne(3, -3, 4, -4, 0, 0);
        CHECK.due("make(3)", 2, () -> third.make(3));
        CHECK.due("EXPRESSIONS of SIZE 2", 2, () -> third.grown(false, 2));
        CHECK.due("TESTS of SIZE 3 alone", 3, () -> third.grown(true, 2));
        // TESTS done by hand ahead: the turns go on from there
        PartMaker ahead = Check.ofOne(3, -3, 4, -4, 0, 0);
        Check.grow(ahead, true, 2);
        CHECK.due("make(3)", 2, () -> ahead.make(3));
        CHECK.due("TESTS go on", 5, () -> ahead.grown(true, 2));
    }

    private static void makeWithoutIfs() {
        CHECK.promise("promise 27, 'with 0 ifs EXPRESSIONS alone'");
        PartMaker maker = Check.ofOne(3, 1, 4, 0);
        Check.allowNoPart(maker);
        CHECK.due("make(0)", -1, () -> maker.make(0));
        CHECK.due("grown(false, 2)", 9, () -> maker.grown(false, 2));
        CHECK.due("grown(true, 2)", 0, () -> maker.grown(true, 2));
        CHECK.due("make(1)", -1, () -> maker.make(1));
        CHECK.due("grown(true, 2)", 7, () -> maker.grown(true, 2));
    }

    private static void makeBudgetOfAll() {
        CHECK.promise("promise 27, 'BUDGET for all together'; '-2: BUDGET (what was done ahead of that SIZE stays)'");
        // 6 EXPRESSIONS, 51 TESTS
        int[] budgets = {5, 6, 56, 57};
        int[][] due = {{-2, 0, 0}, {-2, 1, 0}, {-2, 1, 0}, {11, 1, 3}};
        for (int i = 0; i < budgets.length; i++) {
            PartMaker maker = GrowthTest.steps();
            int[] answers = due[i];
            maker.budget(budgets[i]);
            CHECK.due("make(2) with " + budgets[i], answers[0], () -> maker.make(2));
            CHECK.due("grown(false, 2)", answers[1], () -> maker.grown(false, 2));
            CHECK.due("grown(true, 2)", answers[2], () -> maker.grown(true, 2));
            CHECK.due("grown(false, 5)", answers[1] * 6, () -> maker.grown(false, 5));
            CHECK.due("grown(true, 5)", answers[2] * 17, () -> maker.grown(true, 5));
            CHECK.due("count(6)", answers[0] > 0 ? 1 : 0, () -> maker.count(6));
            CHECK.due("count(4), BUDGET is as told", budgets[i], () -> maker.count(4));
        }
        PartMaker again = GrowthTest.steps();
        again.budget(51);
        CHECK.due("make(2) with 51", -2, () -> again.make(2));
        CHECK.due("make(2) with 51 again: 6 are MADE already", 11, () -> again.make(2));
    }

    private static void makeBudgetUsedUp() {
        CHECK.promise("promise 27, BUDGET that is used up stops where one more would be MADE");
        PartMaker maker = Check.ofOne(5, 7);
        Check.allowNoPart(maker);
        maker.budget(3);
        CHECK.due("make(0) of 3 with 3", -1, () -> maker.make(0));
        CHECK.due("grown(false, 2), nothing more was MADE", 9, () -> maker.grown(false, 2));
        PartMaker both = Check.ofOne(5, 7);
        Check.allowNoPart(both);
        both.budget(15);
        CHECK.due("make(1) of 3 and 12 with 15", -1, () -> both.make(1));
        CHECK.due("grown(true, 2)", 7, () -> both.grown(true, 2));
        PartMaker less = Check.ofOne(5, 7);
        Check.allowNoPart(less);
        less.budget(14);
        CHECK.due("make(1) of 3 and 12 with 14", -2, () -> less.make(1));
        CHECK.due("grown(false, 2)", 1, () -> less.grown(false, 2));
        CHECK.due("grown(true, 2)", 0, () -> less.grown(true, 2));
        CHECK.due("grown(true, 4)", 0, () -> less.grown(true, 4));
    }

    private static void makeNone() {
        CHECK.promise("promise 27, 'NONE: all came to 1 or 3 and there is none'");
        PartMaker maker = ends(9);
        for (int ifs = 0; ifs <= 3; ifs++) {
            int told = ifs;
            CHECK.due("make(" + ifs + ")", -1, () -> maker.make(told));
        }
        maker.budget(1);
        CHECK.due("make(3), nothing is left to be MADE", -1, () -> maker.make(3));
    }

    private static void makeFull() {
        CHECK.promise("promise 27, 'one that came to 1 or 3 is not grown any more'");
        PartMaker maker = Check.ofTwelve(100, 555);
        CHECK.due("make(0)", -1, () -> maker.make(0));
        CHECK.due("grown(false, 3)", 1, () -> maker.grown(false, 3));
        CHECK.due("grown(true, 2)", 0, () -> maker.grown(true, 2));
        CHECK.due("make(3), TESTS alone are grown", -1, () -> maker.make(3));
        CHECK.due("grow(false), FULL", 1, () -> maker.grow(false));
        CHECK.due("grow(true), LEVEL 7", 3, () -> maker.grow(true));
        int made = maker.grown(false, 5) + maker.grown(true, 5);
        maker.budget(1);
        CHECK.due("make(3), neither is grown any more", -1, () -> maker.make(3));
        CHECK.due("nothing is MADE", made, () -> maker.grown(false, 5) + maker.grown(true, 5));
    }

    private static PartMaker thrice() {
        PartMaker maker = new PartMaker();
        maker.many(3);
        maker.budget(20000);
        for (int e = 0; e < 12; e++) {
            maker.example(e - 6, e * e % 11 - 4, e * 7 % 13 - 5, 3 * (e - 6));
        }
        return maker;
    }

    private static void makeFullNow() {
        CHECK.promise("promise 27, 'then solve(ifs)' also where EXPRESSIONS are FULL now");
        PartMaker maker = thrice();
        CHECK.due("make(0)", 5, () -> maker.make(0));
        CHECK.dueAll("grown(false)", what -> maker.grown(false, what), 300, 280, 4, 1, 0, 581);
        CHECK.writes("writeSolved()", "(x+(x+x))", maker, () -> maker.writeSolved());
        PartMaker turns = thrice();
        CHECK.due("make(1)", 5, () -> turns.make(1));
        CHECK.dueAll("grown(false)", what -> turns.grown(false, what), 300, 280, 4, 1, 0, 581);
        // TESTS had four turns, and are not grown behind the fifth of EXPRESSIONS
        CHECK.due("grown(true, 2)", 6, () -> turns.grown(true, 2));
    }

    private static void solvedAnother() {
        CHECK.promise("promise 28, 'none was, or it is gone', 'another what'");
        PartMaker maker = steps();
        CHECK.dueAll("solved", maker::solved, 11, 2, 2, 3, 1, -1);
        CHECK.refusedAll("solved", Check.ELEMENT, maker::solved, 6, -1, 7, MIN, MAX);
        PartMaker one = Check.ofOne(3, 3);
        CHECK.refusedAll("solved, none", Check.STATE, one::solved, 0, 5, 6, -1, MIN, MAX);
        one.make(0);
        CHECK.dueAll("solved", one::solved, 1, 0, 0, 1, -1, 0);
        one.drop(0);
        CHECK.refusedAll("solved, gone", Check.STATE, one::solved, 0, 5, 6, -1);
    }

    private static void comesInputs() {
        CHECK.promise("promise 29, 'an INPUT is none'");
        PartMaker maker = steps();
        CHECK.refusedAll("x", Check.ARGUMENT, v -> maker.comes(v, 0, 0), NO_INPUTS);
        CHECK.refusedAll("y of one", Check.ARGUMENT, v -> maker.comes(0, v, 0), NOT_THERE);
        CHECK.refusedAll("z of one", Check.ARGUMENT, v -> maker.comes(0, 0, v), NOT_THERE);
        CHECK.due("comes(99, 0, 0)", 5, () -> maker.comes(99, 0, 0));
        CHECK.due("comes(-99, 0, 0)", -5, () -> maker.comes(-99, 0, 0));
        CHECK.due("comes(-1, 0, 0)", -5, () -> maker.comes(-1, 0, 0));
        CHECK.due("comes(0, 0, 0)", 7, () -> maker.comes(0, 0, 0));
        CHECK.due("comes(1, 0, 0)", 5, () -> maker.comes(1, 0, 0));
        PartMaker two = Check.ofTwo(1, 2, 2, 5, 4, 4);
        two.make(0);
        CHECK.refusedAll("y of two", Check.ARGUMENT, v -> two.comes(0, v, 0), NO_INPUTS);
        CHECK.refusedAll("z of two", Check.ARGUMENT, v -> two.comes(0, 0, v), NOT_THERE);
        CHECK.due("comes(0, 99, 0)", 99, () -> two.comes(0, 99, 0));
        CHECK.due("comes(0, -99, 0)", -99, () -> two.comes(0, -99, 0));
        PartMaker three = new PartMaker();
        three.many(3);
        three.example(1, 2, 3, 3);
        three.example(1, 2, 4, 4);
        three.make(0);
        CHECK.refusedAll("z of three", Check.ARGUMENT, v -> three.comes(0, 0, v), NO_INPUTS);
        CHECK.due("comes(0, 0, -99)", -99, () -> three.comes(0, 0, -99));
        CHECK.due("comes(0, 0, 99)", 99, () -> three.comes(0, 0, 99));
    }

    private static void writeSolvedNone() {
        CHECK.promise("promise 30, 'none was'");
        PartMaker maker = GrowthTest.steps();
        maker.grow(false);
        maker.write(false, 1);
        CHECK.refused("writeSolved()", Check.STATE, () -> maker.writeSolved());
        CHECK.due("count(5), stays", 2, () -> maker.count(5));
        maker.make(2);
        CHECK.writes("writeSolved()", "[(x<0)?-5:[(x<1)?7:5]]", maker, () -> maker.writeSolved());
    }

    private static void leafNoneSuch() {
        CHECK.promise("promise 31, 'no such EXAMPLE'");
        PartMaker maker = steps();
        CHECK.dueAll("leaf", maker::leaf, 1, 5, 4, 4, 1);
        CHECK.refusedAll("leaf", Check.ELEMENT, maker::leaf, 5, -1, 12, MIN, MAX);
        PartMaker twelve = new PartMaker();
        for (int x = 0; x < 12; x++) {
            twelve.example(x, 0, 0, x);
        }
        twelve.make(0);
        CHECK.dueAll("leaf", twelve::leaf, 0, 0, 0, 0, 0, 0, 0, 0, 0, 0, 0, 0);
        CHECK.refusedAll("leaf", Check.ELEMENT, twelve::leaf, 12, -1);
    }

    private static void apartNoneSuch() {
        CHECK.promise("promise 32, 'there is none such, no such INPUT'");
        PartMaker maker = steps();
        CHECK.refusedAll("apart, k", Check.ELEMENT, k -> maker.apart(k, 0), 6, -1, 300, MIN, MAX);
        CHECK.refusedAll("apart, INPUT", Check.ELEMENT, i -> maker.apart(0, i), 3, -1, MIN, MAX);
        CHECK.dueAll("apart from x", i -> maker.apart(0, i), -9, 0, 0);
        CHECK.dueAll("apart from 5, the last but one", i -> maker.apart(4, i), -9, 0, 0);
        CHECK.dueAll("apart from 7, the last", i -> maker.apart(5, i), -9, 0, 0);
        PartMaker one = Check.ofOne(3, 3);
        one.make(0);
        CHECK.dueAll("apart from itself", i -> one.apart(0, i), -100, -100, -100);
        CHECK.refusedAll("apart, ALIKE, INPUT", Check.ELEMENT, i -> one.apart(0, i), 3, -1);
    }

    private static void apartEdges() {
        CHECK.promise("TELLS APART, 'each from -9 to 9', promise 32");
        PartMaker maker = Check.ofOne(20, 20, -20, -20, 5, 5, 9, 9, -9, -9, 10, 10, -10, -10);
        Check.allowOnly(maker, 3, 4);
        for (int v : new int[] {-10, -9, -8, 8, 9, 10}) {
            maker.constant(v);
        }
        Check.grow(maker, false, 3);
        CHECK.due("solve(0), x", 1, () -> maker.solve(0));
        String[] texts = {"min(x,8)", "min(x,9)", "min(x,10)", "max(x,-8)", "max(x,-9)", "max(x,-10)", "x"};
        int[] due = {9, -100, -100, -9, -100, -100, -100};
        for (int i = 0; i < texts.length; i++) {
            int k = Check.numberOf(maker, false, texts[i]);
            CHECK.due("apart from " + texts[i], due[i], () -> maker.apart(k, 0));
            int other = due[i] == -100 ? -100 : 0;
            CHECK.due("apart from " + texts[i] + ", y that is not there", other, () -> maker.apart(k, 1));
            CHECK.due("apart from " + texts[i] + ", z that is not there", other, () -> maker.apart(k, 2));
        }
    }

    private static void apartOfTwoAndThree() {
        CHECK.promise("TELLS APART, 'x, then y, then z ... those that are not there 0', promise 32");
        PartMaker two = Check.ofTwo(5, 6, 5, 7, 8, 7);
        two.make(0);
        CHECK.dueAll("x and y", i -> two.apart(1, i), -9, -8, 0);
        PartMaker three = new PartMaker();
        three.many(3);
        three.example(5, 6, 7, 6);
        three.example(8, 9, 3, 9);
        three.make(0);
        CHECK.dueAll("y and x", i -> three.apart(0, i), -9, -8, -9);
        CHECK.dueAll("y and z", i -> three.apart(2, i), -9, -9, -8);
        CHECK.dueAll("y and 0", i -> three.apart(3, i), -9, -9, -9);
        // with x<y x, else y: from x the first is where x is above y
        PartMaker lesser = Check.ofTwo(1, 2, 1, 5, 3, 3, -4, 6, -4, 8, -8, -8);
        Check.allowNoPart(lesser);
        lesser.make(1);
        CHECK.writes("writeSolved()", "[(x<y)?x:y]", lesser, () -> lesser.writeSolved());
        CHECK.dueAll("apart from x", i -> lesser.apart(0, i), -8, -9, 0);
        CHECK.dueAll("apart from y", i -> lesser.apart(1, i), -9, -8, 0);
    }

    private static void apartOfTheLatest() {
        CHECK.promise("TELLS APART, 'the PROGRAM of the latest solve()'");
        PartMaker maker = Check.ofOne(3, 3, 1, 1);
        Check.grow(maker, false, 3);
        maker.solve(0);
        CHECK.due("apart from x", -100, () -> maker.apart(0, 0));
        maker.many(1);
        maker.example(3, 0, 0, 0);
        maker.example(1, 0, 0, 0);
        maker.grow(false);
        maker.solve(0);
        CHECK.due("apart from x, 0 is SOLVED", -9, () -> maker.apart(0, 0));
        CHECK.due("apart from 0", -100, () -> maker.apart(1, 0));
    }

    private static void withoutNone() {
        CHECK.promise("promise 33, 'there is no such PART, the number of ifs is none'; NONE");
        PartMaker maker = steps();
        CHECK.refusedAll("without, PART", Check.ARGUMENT, p -> maker.without(p, 0), NO_PARTS);
        CHECK.refusedAll("without, PART", Check.ARGUMENT, p -> maker.without(p, 3), NO_PARTS);
        for (int p = 0; p <= 9; p++) {
            int part = p;
            CHECK.dueAll("without(" + part + ")", ifs -> maker.without(part, ifs), -1, -1, 11, 11);
        }
        PartMaker most = ends(8);
        CHECK.dueAll("without(9)", ifs -> most.without(9, ifs), -1, -1, -1, 36);
        PartMaker nothing = Check.ofOne(3, 3);
        CHECK.dueAll("without(0), nothing grown", ifs -> nothing.without(0, ifs), -1, -1, -1, -1);
    }

    private static void withoutPart() {
        CHECK.promise("promise 33, 'those ... alone in which a PART does not stand'; '(SOLVED stays.)'");
        PartMaker maker = Check.ofOne(1, -1, 0, 0, 5, -5);
        Check.allowOnly(maker, 1, 5);
        Check.grow(maker, false, 3);
        CHECK.due("solve(0), -(x)", 2, () -> maker.solve(0));
        String facts = Facts.of(maker);
        // (0-x) was MERGED with -(x), and is not KEPT
        CHECK.due("without(5, 0)", -1, () -> maker.without(5, 0));
        CHECK.due("without(1, 0)", 2, () -> maker.without(1, 0));
        CHECK.unchanged("SOLVED stays", facts, maker);
        PartMaker deep = Check.ofOne(1, -1, 2, 0, 5, 3);
        Check.allowOnly(deep, 0, 5);
        Check.grow(deep, false, 4);
        CHECK.due("solve(0), x+-(1)+-(1)", -1, () -> deep.solve(0));
        Check.grow(deep, false, 2);
        CHECK.due("solve(0)", 6, () -> deep.solve(0));
        CHECK.due("without(5, 0)", -1, () -> deep.without(5, 0));
        CHECK.due("without(0, 0)", -1, () -> deep.without(0, 0));
        CHECK.due("without(1, 0)", 6, () -> deep.without(1, 0));
    }

    private static PartMaker tied(int... told) {
        PartMaker maker = new PartMaker();
        maker.many(3);
        for (int i = 0; i < told.length; i += 4) {
            maker.example(told[i], told[i + 1], told[i + 2], told[i + 3]);
        }
        Check.allowNoPart(maker);
        for (int v = 2; v <= 9; v++) {
            maker.constant(v);
        }
        maker.grow(false);
        maker.grow(true);
        return maker;
    }

    private static void tiesAtMost() {
        CHECK.promise("promise 34, '1,000,000,000 at most'");
        PartMaker below = tied(4, 8, 5, 4, 1, 3, 0, 7, 8, 0, 1, 9, 8, 7, 7, 5, 3, 2, 0, 2, 0, 1, 4, 3, 7, 5, 2, 6,
                7, 2, 8, 8, 6, 6, 3, 6);
        CHECK.dueAll("ties, below", below::ties, 0, 0, 0, 999_953_088);
        CHECK.due("solve(3)", 36, () -> below.solve(3));
        // 1,000,096,640 in all
        PartMaker above = tied(4, 6, 5, 4, 1, 9, 9, 7, 8, 1, 1, 4, 9, 3, 7, 5, 3, 2, 0, 2, 1, 1, 4, 9, 5, 4, 2, 6,
                7, 2, 8, 8, 6, 6, 3, 6);
        CHECK.dueAll("ties, above", above::ties, 0, 0, 0, 1_000_000_000);
        CHECK.due("ties(3) again", 1_000_000_000, () -> above.ties(3));
        // 4,984,538,400 in all, 2,192,375,040 of them with one and the same first TEST: both beyond ints
        PartMaker beyond = tied(4, 8, 8, 4, 0, 3, 3, 1, 8, 1, 0, 8, 7, 9, 1, 5, 1, 2, 0, 2, 3, 0, 9, 9, 5, 5, 2, 6,
                9, 7, 8, 7, 6, 6, 5, 6);
        CHECK.dueAll("ties, beyond ints", beyond::ties, 0, 0, 0, 1_000_000_000);
    }

    private static void tiesWithoutAny() {
        CHECK.promise("promise 34, '0 without'; 'of what stands behind then, else any that FITS'");
        PartMaker none = ends(9);
        CHECK.dueAll("ties of nine ends", none::ties, 0, 0, 0, 0);
        PartMaker nothing = Check.ofOne(3, 3);
        CHECK.dueAll("ties, nothing grown", nothing::ties, 0, 0, 0, 0);
        nothing.grow(false);
        CHECK.dueAll("ties of x", nothing::ties, 1, 1, 1, 1);
        PartMaker any = Check.ofOne(3, 3, 8, 5);
        Check.allowNoPart(any);
        any.constant(3);
        any.constant(5);
        Check.grow(any, false, 1);
        Check.grow(any, true, 1);
        // x<5 and 3<x, each with x and with 3
        CHECK.dueAll("ties", any::ties, 0, 4, 4, 4);
        CHECK.due("count(6), none is SOLVED by it", 0, () -> any.count(6));
    }

    private static void neededNone() {
        CHECK.promise("promise 35, 'The fewest ifs within one another (0 to 3)'; NONE");
        PartMaker nothing = Check.ofOne(3, 3);
        CHECK.due("needed(), nothing grown", -1, () -> nothing.needed());
        nothing.grow(false);
        CHECK.due("needed(), x", 0, () -> nothing.needed());
        PartMaker maker = steps();
        maker.solve(3);
        CHECK.due("needed()", 2, () -> maker.needed());
        CHECK.due("solved(0), SOLVED stays", 11, () -> maker.solved(0));
        PartMaker none = steps();
        none.solve(1);
        CHECK.due("needed()", 2, () -> none.needed());
        CHECK.due("count(6), none is SOLVED by it", 0, () -> none.count(6));
    }

    private static void solvedUsesNoPart() {
        CHECK.promise("promise 36, 'there is no such PART'; 'How often ... TESTS too'");
        PartMaker maker = steps();
        CHECK.refusedAll("solvedUses", Check.ARGUMENT, maker::solvedUses, NO_PARTS);
        CHECK.dueAll("solvedUses", maker::solvedUses, 0, 0, 0, 0, 0, 0, 0, 0, 0, 0);
        PartMaker none = Check.ofOne(3, 3);
        CHECK.refusedAll("solvedUses, none is", Check.STATE, none::solvedUses, 0, 9, 10, -1);
        // -(x) stands at two ends
        PartMaker often = Check.ofOne(5, -5, 6, 0, 7, 0, 8, -8);
        Check.allowOnly(often, 5);
        often.constant(6);
        often.constant(8);
        Check.grow(often, false, 2);
        Check.grow(often, true, 1);
        CHECK.due("solve(2)", 13, () -> often.solve(2));
        CHECK.writes("writeSolved()", "[(x<6)?-(x):[(x<8)?0:-(x)]]", often, () -> often.writeSolved());
        CHECK.dueAll("solvedUses", often::solvedUses, 0, 0, 0, 0, 0, 2, 0, 0, 0, 0);
        CHECK.due("solved(3), unlike ones", 2, () -> often.solved(3));
        PartMaker tested = Check.ofOne(-3, 0, -1, 1);
        Check.allowOnly(tested, 5);
        Check.grow(tested, false, 2);
        Check.grow(tested, true, 2);
        CHECK.due("solve(1)", 7, () -> tested.solve(1));
        CHECK.writes("writeSolved()", "[(x<-(1))?0:1]", tested, () -> tested.writeSolved());
        CHECK.dueAll("solvedUses", tested::solvedUses, 0, 0, 0, 0, 0, 1, 0, 0, 0, 0);
    }

    private static void wayBehind() {
        CHECK.promise("promise 37, 'the k-th TEST ..., doubled, and 1 more where it is 1; NONE behind'");
        PartMaker maker = steps();
        CHECK.dueAll("way of -1", k -> maker.way(-1, 0, 0, k), 3, -1, -1);
        CHECK.dueAll("way of 0", k -> maker.way(0, 0, 0, k), 2, 5, -1);
        CHECK.dueAll("way of 1", k -> maker.way(1, 0, 0, k), 2, 4, -1);
        for (int k : new int[] {-1, 2, 3, 4, MIN, MAX}) {
            CHECK.due("way of 1, " + k, -1, () -> maker.way(1, 0, 0, k));
        }
        PartMaker one = Check.ofOne(3, 3);
        one.make(0);
        for (int k : new int[] {-1, 0, 1, MIN, MAX}) {
            CHECK.due("way without an if, " + k, -1, () -> one.way(3, 0, 0, k));
        }
    }

    private static void wayInputs() {
        CHECK.promise("promise 37, 'an INPUT is none'");
        PartMaker maker = steps();
        CHECK.refusedAll("x", Check.ARGUMENT, v -> maker.way(v, 0, 0, 0), NO_INPUTS);
        CHECK.refusedAll("y of one", Check.ARGUMENT, v -> maker.way(0, v, 0, 0), NOT_THERE);
        CHECK.refusedAll("z of one", Check.ARGUMENT, v -> maker.way(0, 0, v, 0), NOT_THERE);
        CHECK.refusedAll("x, k behind", Check.ARGUMENT, v -> maker.way(v, 0, 0, 9), NO_INPUTS);
        CHECK.due("way(99, 0, 0, 0)", 2, () -> maker.way(99, 0, 0, 0));
        CHECK.due("way(-99, 0, 0, 0)", 3, () -> maker.way(-99, 0, 0, 0));
        PartMaker three = new PartMaker();
        three.many(3);
        three.example(5, 5, 1, 0);
        three.example(5, 5, 9, 1);
        Check.allowNoPart(three);
        three.make(1);
        CHECK.refusedAll("y of three", Check.ARGUMENT, v -> three.way(0, v, 0, 0), NO_INPUTS);
        CHECK.refusedAll("z of three", Check.ARGUMENT, v -> three.way(0, 0, v, 0), NO_INPUTS);
        CHECK.writes("writeSolved()", "[(x<z)?1:0]", three, () -> three.writeSolved());
        CHECK.due("way(0, 99, -99, 0)", 0, () -> three.way(0, 99, -99, 0));
        CHECK.due("way(0, -99, 99, 0)", 1, () -> three.way(0, -99, 99, 0));
    }

    private static void isIdleNoneSuch() {
        CHECK.promise("promise 38, 'no such EXAMPLE'");
        PartMaker maker = steps();
        CHECK.dueAll("isIdle", e -> maker.isIdle(e) ? 1 : 0, 0, 0, 0, 1, 1);
        CHECK.refusedAll("isIdle", Check.ELEMENT, e -> maker.isIdle(e) ? 1 : 0, 5, -1, 12, 32, MIN, MAX);
        PartMaker twelve = new PartMaker();
        for (int x = 0; x < 12; x++) {
            twelve.example(x, 0, 0, x);
        }
        twelve.make(0);
        CHECK.dueAll("isIdle", e -> twelve.isIdle(e) ? 1 : 0, 1, 1, 1, 1, 1, 1, 1, 1, 1, 1, 1, 1);
        CHECK.refusedAll("isIdle", Check.ELEMENT, e -> twelve.isIdle(e) ? 1 : 0, 12, -1);
    }

    private static void isIdleOfOneAlone() {
        CHECK.promise("IDLE EXAMPLE, 'of one EXAMPLE alone it is not'");
        PartMaker one = Check.ofOne(3, 3);
        one.make(0);
        CHECK.is("isIdle(0) of one", false, () -> one.isIdle(0));
        PartMaker two = Check.ofOne(3, 3, 4, 4);
        two.make(0);
        CHECK.is("isIdle(0) of two", true, () -> two.isIdle(0));
        CHECK.is("isIdle(1) of two", true, () -> two.isIdle(1));
        // of 0 to 0 alone x would be SOLVED, of 1 to 0 alone 0
        PartMaker other = Check.ofOne(0, 0, 1, 0);
        other.make(0);
        CHECK.due("solved(5), 0", 1, () -> other.solved(5));
        CHECK.is("isIdle(0)", true, () -> other.isIdle(0));
        CHECK.is("isIdle(1)", false, () -> other.isIdle(1));
    }

    private static void fitsSets() {
        CHECK.promise("promise 39, 'the set is empty, or has what there is none of', 'another what'");
        PartMaker none = new PartMaker();
        CHECK.refusedAll("fits without EXAMPLES", Check.ARGUMENT, set -> none.fits(set, 0), 0, 1, -1, MIN, MAX);
        PartMaker maker = steps();
        for (int what = 0; what <= 1; what++) {
            int asked = what;
            CHECK.refusedAll("fits", Check.ARGUMENT, set -> maker.fits(set, asked), 0, 32, 33, 63, -1, MIN, MAX);
        }
        CHECK.refusedAll("fits(1)", Check.ELEMENT, what -> maker.fits(1, what), 2, -1, MIN, MAX);
        CHECK.refusedAll("fits(31)", Check.ELEMENT, what -> maker.fits(31, what), 2, -1);
        CHECK.dueAll("fits(31), NONE", what -> maker.fits(31, what), -1, -1);
        CHECK.dueAll("fits(16)", what -> maker.fits(16, what), 1, 1);
        PartMaker twelve = new PartMaker();
        for (int x = 0; x < 12; x++) {
            twelve.example(x, 0, 0, x);
        }
        CHECK.dueAll("fits(4095), nothing grown", what -> twelve.fits(4095, what), -1, -1);
        twelve.make(0);
        CHECK.dueAll("fits(4095)", what -> twelve.fits(4095, what), 1, 0);
        CHECK.dueAll("fits(2048)", what -> twelve.fits(2048, what), 1, 0);
        CHECK.refusedAll("fits", Check.ARGUMENT, set -> twelve.fits(set, 0), 4096, 8191, 1 << 16);
    }

    private static void fitsLeastNumber() {
        CHECK.promise("promise 39, 'the KEPT EXPRESSION of the least number that FITS all EXAMPLES of a set'");
        PartMaker maker = Check.ofOne(0, 0, 1, 0, 2, -2);
        Check.grow(maker, false, 3);
        // x, 0, 1; -(x)
        CHECK.dueAll("fits(1), x ahead of 0", what -> maker.fits(1, what), 1, 0);
        CHECK.dueAll("fits(3), 0", what -> maker.fits(3, what), 1, 1);
        CHECK.dueAll("fits(4), -(x)", what -> maker.fits(4, what), 2, 3);
        CHECK.dueAll("fits(5), -(x)", what -> maker.fits(5, what), 2, 3);
        CHECK.dueAll("fits(6)", what -> maker.fits(6, what), -1, -1);
        CHECK.dueAll("fits(7)", what -> maker.fits(7, what), -1, -1);
    }

    private static void fewestEdges() {
        CHECK.promise("promise 40, 'NONE: some EXAMPLE is not COVERED (0 without EXAMPLES)'");
        CHECK.due("fewest() without EXAMPLES", 0, () -> new PartMaker().fewest());
        PartMaker gone = Check.ofOne(3, 3);
        CHECK.due("fewest(), nothing grown", -1, () -> gone.fewest());
        gone.grow(false);
        CHECK.due("fewest(), x", 1, () -> gone.fewest());
        gone.drop(0);
        CHECK.due("fewest(), gone", 0, () -> gone.fewest());
        PartMaker maker = new PartMaker();
        maker.many(3);
        Check.allowNoPart(maker);
        for (int v = 2; v <= 9; v++) {
            maker.constant(v);
        }
        // each of 0 to 9 once, x once, y once
        for (int e = 0; e < 12; e++) {
            maker.example(20 + e, 40 + e, 60 + e, e < 10 ? e : e == 10 ? 20 + e : 40 + e);
            Check.grow(maker, false, 1);
            CHECK.due("fewest() of " + (e + 1), e + 1, () -> maker.fewest());
        }
        maker.drop(3);
        maker.example(-1, -2, -4, 77);
        maker.grow(false);
        CHECK.due("fewest(), 77 is not COVERED", -1, () -> maker.fewest());
    }

    private static void splitsSets() {
        CHECK.promise("promise 41, 'a set is empty, has what there is none of, or both have one'");
        PartMaker none = new PartMaker();
        CHECK.refusedAll("splits without EXAMPLES", Check.ARGUMENT, set -> none.splits(set, 1), 0, 2, -1, MIN);
        PartMaker maker = steps();
        CHECK.refusedAll("splits, ones", Check.ARGUMENT, set -> maker.splits(set, 1), 0, 32, 34, -1, -2, MIN, MAX);
        CHECK.refusedAll("splits, noughts", Check.ARGUMENT, set -> maker.splits(1, set), 0, 32, 34, -1, -2, MIN, MAX);
        CHECK.refusedAll("splits, both have one", Check.ARGUMENT, set -> maker.splits(set, 18), 2, 16, 18, 19, 31);
        CHECK.refused("splits(0, 0)", Check.ARGUMENT, () -> maker.splits(0, 0));
        CHECK.due("splits(15, 16), all", 4, () -> maker.splits(15, 16));
        CHECK.due("splits(16, 15), all", 0, () -> maker.splits(16, 15));
        CHECK.due("splits(14, 17), NONE", -1, () -> maker.splits(14, 17));
        PartMaker twelve = new PartMaker();
        for (int x = 0; x < 12; x++) {
            twelve.example(x - 11, 0, 0, x);
        }
        Check.grow(twelve, false, 1);
        CHECK.due("splits(2047, 2048), nothing grown", -1, () -> twelve.splits(2047, 2048));
        Check.grow(twelve, true, 1);
        CHECK.due("splits(2047, 2048), x<0", 0, () -> twelve.splits(2047, 2048));
        CHECK.due("splits(2048, 2047), x=0", 1, () -> twelve.splits(2048, 2047));
        CHECK.refused("splits(4096, 1)", Check.ARGUMENT, () -> twelve.splits(4096, 1));
        CHECK.refused("splits(1, 4096)", Check.ARGUMENT, () -> twelve.splits(1, 4096));
    }

    private static void splitsLeastNumber() {
        CHECK.promise("promise 41, 'The TEST of the least number that is 1 on all ... and 0 on all of another'");
        PartMaker maker = steps();
        // of TESTS 0 to 7 the sets are 16, 17, 19, 23, 15, 12, 2, 8
        int[][] told = {{16, 1, 0}, {1, 2, 1}, {1, 4, 1}, {2, 4, 2}, {2, 1, 6}, {4, 8, 3}, {8, 1, 5}, {8, 4, 7},
            {1, 16, 4}, {17, 2, 1}, {17, 14, 1}, {3, 4, 2}, {5, 2, -1}, {12, 3, 5}, {2, 17, 6}, {18, 4, 2},
            {18, 1, -1}};
        for (int[] t : told) {
            CHECK.due("splits(" + t[0] + ", " + t[1] + ")", t[2], () -> maker.splits(t[0], t[1]));
        }
    }

    /** x y WANTED by turns; 7 is a CONSTANT; no PARTS. */
    private static PartMaker withSeven(int... told) {
        PartMaker maker = Check.ofTwo(told);
        Check.allowNoPart(maker);
        maker.constant(7);
        Check.grow(maker, false, 1);
        Check.grow(maker, true, 1);
        return maker;
    }

    private static void tellAnew(PartMaker maker, int... told) {
        maker.many(2);
        for (int i = 0; i + 2 < told.length; i += 3) {
            maker.example(told[i], told[i + 1], 0, told[i + 2]);
        }
    }

    private static void byWhatIsKeptNow() {
        CHECK.promise("promises 34, 35, 39 to 41, 'by what is KEPT': as more grows");
        // -(x), 0 and 1; then (x+1), which COVERS the first two
        PartMaker maker = Check.ofOne(-1, 1, 1, -1, 3, 4, 8, 9, 20, 20);
        maker.constant(4);
        maker.constant(9);
        Check.grow(maker, false, 2);
        CHECK.due("fewest(), -(x), 4, 9, x", 4, () -> maker.fewest());
        CHECK.dueAll("fits(12)", what -> maker.fits(12, what), -1, -1);
        CHECK.dueAll("ties, no TESTS", maker::ties, 0, 0, 0, 0);
        CHECK.due("needed(), no TESTS", -1, () -> maker.needed());
        Check.grow(maker, false, 1);
        CHECK.due("fewest(), -(x), (x+1), x", 3, () -> maker.fewest());
        int next = Check.numberOf(maker, false, "(x+1)");
        CHECK.dueAll("fits(12)", what -> maker.fits(12, what), 3, next);
        Check.grow(maker, true, 1);
        CHECK.due("needed()", 2, () -> maker.needed());
        PartMaker tied = Check.ofOne(3, 3, 8, 5);
        Check.allowOnly(tied, 5);
        tied.constant(3);
        tied.constant(5);
        Check.grow(tied, false, 1);
        Check.grow(tied, true, 1);
        CHECK.dueAll("ties", tied::ties, 0, 4, 4, 4);
        CHECK.due("splits(1, 2)", 0, () -> tied.splits(1, 2));
        tied.many(1);
        tied.example(8, 0, 0, 7);
        tied.example(3, 0, 0, 5);
        tied.constant(7);
        Check.grow(tied, false, 1);
        Check.grow(tied, true, 1);
        // x<5, x<7 are alike, and 3<x; x is 7 or 5 nowhere
        CHECK.dueAll("ties, anew", tied::ties, 0, 2, 2, 2);
    }

    private static void whatIsGoneCountsForNothing() {
        CHECK.promise("promises 34, 39 to 41: EXPRESSIONS and TESTS that are gone count for nothing");
        PartMaker none = withSeven(5, 6, 7, 7, 8, 7, 8, 9, 7);
        CHECK.due("fewest(), 7", 1, () -> none.fewest());
        CHECK.dueAll("fits(7), 7", what -> none.fits(7, what), 1, 4);
        CHECK.due("splits(1, 6)", 0, () -> none.splits(1, 6));
        none.part(0, false);
        CHECK.dueAll("fits(7), gone", what -> none.fits(7, what), -1, -1);
        CHECK.due("splits(1, 6), gone", -1, () -> none.splits(1, 6));
        CHECK.due("fewest(), gone", -1, () -> none.fewest());
        CHECK.due("nearest(), gone", -1, () -> none.nearest());
        CHECK.due("ofSize(false, 1), gone", 0, () -> none.ofSize(false, 1));
        // y is MERGED with x: one less is KEPT than before, and 7 FITS none
        tellAnew(none, 5, 5, 5, 7, 7, 0, 8, 8, 1);
        Check.grow(none, false, 1);
        Check.grow(none, true, 1);
        CHECK.due("grown(false, 0)", 4, () -> none.grown(false, 0));
        CHECK.due("fewest(), x, 0, 1", 3, () -> none.fewest());
        CHECK.dueAll("fits(7)", what -> none.fits(7, what), -1, -1);
        CHECK.dueAll("fits(1)", what -> none.fits(1, what), 1, 0);
        PartMaker tied = withSeven(5, 6, 7, 7, 8, 7);
        CHECK.dueAll("ties, 7", tied::ties, 1, 1, 1, 1);
        tellAnew(tied, 5, 5, 5, 7, 7, 0);
        Check.grow(tied, false, 1);
        Check.grow(tied, true, 1);
        // x<7 and x=7, each with x and 0
        CHECK.dueAll("ties, anew", tied::ties, 0, 2, 2, 2);
    }

    private static void setsWithAll300() {
        CHECK.promise("promises 22, 34, 35, 39 to 41, with 300 and 150 KEPT ones");
        PartMaker maker = Check.ofTwelve(100, 555);
        for (int v : new int[] {9, -3, -6, 4}) {
            maker.constant(v);
        }
        Check.grow(maker, false, 9);
        Check.grow(maker, true, 5);
        CHECK.due("grown(false, 0)", 300, () -> maker.grown(false, 0));
        CHECK.due("grown(true, 0)", 150, () -> maker.grown(true, 0));
        CHECK.dueAll("fits(4095)", what -> maker.fits(4095, what), -1, -1);
        CHECK.due("fewest()", -1, () -> maker.fewest());
        CHECK.dueAll("ties", maker::ties, 0, 0, 0, 0);
        CHECK.due("needed()", -1, () -> maker.needed());
        CHECK.due("splits, all twelve", -1, () -> maker.splits(0b100110010110, 0b011001101001));
        CHECK.due("solve(3)", -1, () -> maker.solve(3));
        CHECK.due("ofSize(false, 1)", 9, () -> maker.ofSize(false, 1));
    }
}
