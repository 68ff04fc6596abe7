/** Promises 26 to 41: what is SOLVED, and what is asked of it and of sets of EXAMPLES. */
public final class ProgramsTest {
    private static final Check CHECK = new Check();

    public static void main(String[] args) {
        solve();
        solveAhead();
        solvedStays();
        make();
        makeBudget();
        makeLevels();
        solved();
        comes();
        writeSolved();
        leaf();
        apart();
        without();
        ties();
        needed();
        solvedUses();
        way();
        isIdle();
        isIdleByWhatIsKeptNow();
        isIdleOfTwelve();
        isIdleBehindTies();
        isIdleBehindWithout();
        foundAnew();
        fits();
        fewest();
        splits();
        CHECK.end();
    }

    /** SOLVED as [(x‹0)?-5:[(x‹1)?7:5]]: TESTS 1 and 2, EXPRESSIONS 1, 5, 4. */
    private static PartMaker steps() {
        PartMaker maker = GrowthTest.steps();
        maker.make(2);
        return maker;
    }

    /** x 5, 15, 25, 35, 45 comes to 10, 20, 30, 40, 50: five leaves need three ifs in one another. */
    private static PartMaker stairs() {
        PartMaker maker = Check.ofOne(5, 10, 15, 20, 25, 30, 35, 40, 45, 50);
        Check.allowNoPart(maker);
        for (int v = 10; v <= 50; v += 10) {
            maker.constant(v);
        }
        maker.grow(false);
        maker.grow(true);
        return maker;
    }

    /** x+y where x‹y, else x*y. */
    private static PartMaker twoParts() {
        PartMaker maker = Check.ofTwo(1, 2, 3, 2, 5, 7, 5, 2, 10, 4, 4, 16, 3, -1, -3);
        Check.allowNoPart(maker);
        Check.allowPart(maker, 0);
        Check.allowPart(maker, 2);
        return maker;
    }

    private static void solve() {
        CHECK.promise("promise 26");
        CHECK.refused("solve(0) without EXAMPLES", Check.STATE, () -> new PartMaker().solve(0));
        CHECK.refused("solve(4) without EXAMPLES", Check.ARGUMENT, () -> new PartMaker().solve(4));
        CHECK.refused("solve(-1)", Check.ARGUMENT, () -> new PartMaker().solve(-1));
        PartMaker maker = GrowthTest.steps();
        CHECK.due("solve(3), nothing grown", -1, () -> maker.solve(3));
        maker.grow(false);
        CHECK.due("solve(3), no TESTS", -1, () -> maker.solve(3));
        maker.grow(true);
        CHECK.due("solve(0)", -1, () -> maker.solve(0));
        CHECK.due("solve(1)", -1, () -> maker.solve(1));
        CHECK.due("solve(2)", 11, () -> maker.solve(2));
        CHECK.due("solve(3)", 11, () -> maker.solve(3));
        PartMaker stairs = stairs();
        CHECK.due("solve(2), four leaves at most", -1, () -> stairs.solve(2));
        CHECK.due("solve(3)", 21, () -> stairs.solve(3));
        CHECK.writes("writeSolved()", "[(x<10)?10:[(x<30)?[(x<20)?20:30]:[(x<40)?40:50]]]", stairs,
                () -> stairs.writeSolved());
        PartMaker least = Check.ofOne(1, 1, 2, 2);
        least.constant(2);
        least.grow(false);
        CHECK.due("solve(0)", 1, () -> least.solve(0));
        CHECK.due("solved(5), the least number", 0, () -> least.solved(5));
    }

    private static void solveAhead() {
        CHECK.promise("SOLVED, one EXPRESSION ahead of an if of the same SIZE");
        PartMaker maker = Check.ofOne(3, 1, -2, -2);
        Check.allowNoPart(maker);
        Check.allowPart(maker, 4);
        Check.allowPart(maker, 5);
        for (int size = 1; size <= 5; size++) {
            maker.grow(false);
        }
        maker.grow(true);
        CHECK.due("solve(1), SIZES to 5", 6, () -> maker.solve(1));
        CHECK.writes("writeSolved()", "[(x<0)?x:1]", maker, () -> maker.writeSolved());
        maker.grow(false);
        CHECK.due("solve(1), SIZES to 6", 6, () -> maker.solve(1));
        CHECK.writes("writeSolved()", "-(max(-(x),-(1)))", maker, () -> maker.writeSolved());
        CHECK.due("ties(0)", 1, () -> maker.ties(0));
        CHECK.due("ties(1), and with x‹0, 0‹x", 3, () -> maker.ties(1));
    }

    private static void solvedStays() {
        CHECK.promise("SOLVED stays, till solve(), make() again");
        PartMaker maker = steps();
        maker.grow(false);
        maker.grow(true);
        CHECK.due("ties(2)", 10, () -> maker.ties(2));
        CHECK.due("needed()", 2, () -> maker.needed());
        CHECK.due("without(0, 1)", -1, () -> maker.without(0, 1));
        CHECK.due("solved(0)", 11, () -> maker.solved(0));
        CHECK.due("solve(1)", -1, () -> maker.solve(1));
        CHECK.due("count(6)", 0, () -> maker.count(6));
        CHECK.refused("solved(0), none", Check.STATE, () -> maker.solved(0));
        maker.solve(2);
        CHECK.due("make(0)", -1, () -> maker.make(0));
        CHECK.refused("solved(0), none by make", Check.STATE, () -> maker.solved(0));
    }

    private static void make() {
        CHECK.promise("promise 27");
        CHECK.refused("make(1) without EXAMPLES", Check.STATE, () -> new PartMaker().make(1));
        CHECK.refused("make(4) without EXAMPLES", Check.ARGUMENT, () -> new PartMaker().make(4));
        CHECK.refused("make(-1)", Check.ARGUMENT, () -> new PartMaker().make(-1));
        PartMaker maker = Check.ofOne(0, 1, 1, 3, 2, 5);
        CHECK.due("make(0)", 5, () -> maker.make(0));
        CHECK.due("grown(false, 2)", 5, () -> maker.grown(false, 2));
        CHECK.due("grown(true, 2)", 0, () -> maker.grown(true, 2));
        CHECK.due("solved(5)", 20, () -> maker.solved(5));
        CHECK.due("make(3) again, solve first of all", 5, () -> maker.make(3));
        CHECK.due("grown(false, 2), as before", 5, () -> maker.grown(false, 2));
        PartMaker steps = GrowthTest.steps();
        CHECK.due("make(2)", 11, () -> steps.make(2));
        CHECK.due("grown(false, 2)", 1, () -> steps.grown(false, 2));
        CHECK.due("grown(true, 2)", 3, () -> steps.grown(true, 2));
        PartMaker larger = Check.ofOne(1, 1, 5, 1, -3, -3);
        // min(x,1) at SIZE 3 comes ahead of [(x‹0)?x:1] only if EXPRESSIONS come there
        CHECK.due("make(1)", 6, () -> larger.make(1));
        CHECK.due("grown(false, 2)", 1, () -> larger.grown(false, 2));
        PartMaker alone = Check.ofOne(1, 1, 5, 1, -3, -3);
        CHECK.due("make(0)", 3, () -> alone.make(0));
        CHECK.writes("writeSolved()", "min(x,1)", alone, () -> alone.writeSolved());
    }

    private static void makeBudget() {
        CHECK.promise("promise 27, BUDGET for all together");
        PartMaker few = GrowthTest.steps();
        few.budget(56);
        CHECK.due("make(2) of 57", -2, () -> few.make(2));
        CHECK.due("grown(false, 2)", 1, () -> few.grown(false, 2));
        CHECK.due("grown(false, 5)", 6, () -> few.grown(false, 5));
        CHECK.due("grown(true, 2)", 0, () -> few.grown(true, 2));
        CHECK.due("grown(true, 5)", 0, () -> few.grown(true, 5));
        CHECK.due("count(6)", 0, () -> few.count(6));
        CHECK.due("make(2) goes on", 11, () -> few.make(2));
        PartMaker enough = GrowthTest.steps();
        enough.budget(57);
        CHECK.due("make(2) of 57", 11, () -> enough.make(2));
        PartMaker none = GrowthTest.steps();
        none.budget(5);
        CHECK.due("make(0) of 6", -2, () -> none.make(0));
        CHECK.due("grown(false, 2)", 0, () -> none.grown(false, 2));
        PartMaker gone = steps();
        gone.budget(1);
        gone.example(9, 0, 0, 99);
        CHECK.due("make(2) of 1", -2, () -> gone.make(2));
        CHECK.refused("solved(0)", Check.STATE, () -> gone.solved(0));
    }

    private static void makeLevels() {
        CHECK.promise("promise 27, NONE");
        PartMaker maker = GrowthTest.steps();
        CHECK.due("make(0)", -1, () -> maker.make(0));
        CHECK.due("grown(false, 2)", 9, () -> maker.grown(false, 2));
        CHECK.due("grown(true, 2)", 0, () -> maker.grown(true, 2));
        PartMaker both = GrowthTest.steps();
        both.budget(6 + 51 + 8 + 2 + 28);
        CHECK.due("make(1)", -1, () -> both.make(1));
        CHECK.due("grown(false, 2)", 9, () -> both.grown(false, 2));
        CHECK.due("grown(true, 2)", 7, () -> both.grown(true, 2));
        PartMaker less = GrowthTest.steps();
        less.budget(6 + 51 + 8 + 2 + 27);
        CHECK.due("make(1)", -2, () -> less.make(1));
        // at its turn ahead of TESTS of SIZE 7 EXPRESSIONS of SIZE 5 were MADE
        CHECK.due("grown(false, 2)", 5, () -> less.grown(false, 2));
        CHECK.due("grown(true, 2)", 6, () -> less.grown(true, 2));
        PartMaker full = new PartMaker();
        full.many(3);
        for (int e = 0; e < 12; e++) {
            full.example(e - 6, e * e % 11 - 4, e * 7 % 13 - 5, 100 * e - 555);
        }
        full.budget(20000);
        CHECK.due("make(0), FULL", -1, () -> full.make(0));
        CHECK.due("grown(false, 3)", 1, () -> full.grown(false, 3));
        CHECK.due("make(0), FULL already", -1, () -> full.make(0));
    }

    private static void solved() {
        CHECK.promise("promise 28");
        PartMaker maker = steps();
        int[] due = {11, 2, 2, 3, 1, -1};
        for (int what = 0; what < due.length; what++) {
            int asked = what;
            CHECK.due("solved(" + what + ")", due[what], () -> maker.solved(asked));
        }
        CHECK.refused("solved(6)", Check.ELEMENT, () -> maker.solved(6));
        CHECK.refused("solved(-1)", Check.ELEMENT, () -> maker.solved(-1));
        PartMaker stairs = stairs();
        CHECK.refused("solved(6), none yet", Check.STATE, () -> stairs.solved(6));
        stairs.solve(3);
        int[] dueOfStairs = {21, 4, 3, 5, 0, -1};
        for (int what = 0; what < dueOfStairs.length; what++) {
            int asked = what;
            CHECK.due("solved(" + what + ")", dueOfStairs[what], () -> stairs.solved(asked));
        }
        int[] dueOfOne = {5, 0, 0, 1, -1, 20};
        PartMaker alone = Check.ofOne(0, 1, 1, 3, 2, 5);
        alone.make(0);
        for (int what = 0; what < dueOfOne.length; what++) {
            int asked = what;
            CHECK.due("solved(" + what + ")", dueOfOne[what], () -> alone.solved(asked));
        }
        // 0 stands behind two of three ends: two unlike EXPRESSIONS
        PartMaker twice = Check.ofOne(-5, 0, 0, 7, 5, 0, 9, 0, -8, 0);
        Check.allowNoPart(twice);
        twice.constant(7);
        twice.grow(false);
        twice.grow(true);
        CHECK.due("solve(1), by x=0", 6, () -> twice.solve(1));
        CHECK.due("solved(3)", 2, () -> twice.solved(3));
        PartMaker range = Check.ofOne(-5, 0, 0, 7, 2, 7, 5, 0, 9, 0, -8, 0);
        Check.allowNoPart(range);
        range.constant(7);
        range.constant(3);
        range.grow(false);
        range.grow(true);
        CHECK.due("solve(2)", 11, () -> range.solve(2));
        CHECK.writes("writeSolved()", "[(x<0)?0:[(x<3)?7:0]]", range, () -> range.writeSolved());
        CHECK.due("solved(1)", 2, () -> range.solved(1));
        CHECK.due("solved(3)", 2, () -> range.solved(3));
    }

    private static void comes() {
        CHECK.promise("promise 29");
        PartMaker maker = steps();
        CHECK.due("comes(-99, 0, 0)", -5, () -> maker.comes(-99, 0, 0));
        CHECK.due("comes(-1, 0, 0)", -5, () -> maker.comes(-1, 0, 0));
        CHECK.due("comes(0, 0, 0)", 7, () -> maker.comes(0, 0, 0));
        CHECK.due("comes(1, 0, 0)", 5, () -> maker.comes(1, 0, 0));
        CHECK.refused("comes(100, 0, 0)", Check.ARGUMENT, () -> maker.comes(100, 0, 0));
        CHECK.refused("comes(0, 1, 0)", Check.ARGUMENT, () -> maker.comes(0, 1, 0));
        maker.solve(0);
        CHECK.refused("comes(100, 0, 0), none", Check.STATE, () -> maker.comes(100, 0, 0));
        PartMaker two = twoParts();
        two.make(1);
        CHECK.due("comes(8, 9, 0)", 17, () -> two.comes(8, 9, 0));
        CHECK.due("comes(9, 8, 0)", 72, () -> two.comes(9, 8, 0));
    }

    private static void writeSolved() {
        CHECK.promise("promise 30");
        PartMaker maker = GrowthTest.steps();
        CHECK.refused("writeSolved(), none", Check.STATE, () -> maker.writeSolved());
        maker.make(2);
        CHECK.writes("writeSolved()", "[(x<0)?-5:[(x<1)?7:5]]", maker, () -> maker.writeSolved());
        PartMaker two = twoParts();
        two.make(1);
        CHECK.writes("writeSolved()", "[(x<y)?(x+y):(x*y)]", two, () -> two.writeSolved());
        two.drop(0);
        CHECK.refused("writeSolved(), gone", Check.STATE, () -> two.writeSolved());
        CHECK.due("octet(3)", '<', () -> two.octet(3));
    }

    private static void leaf() {
        CHECK.promise("promise 31");
        PartMaker maker = steps();
        int[] due = {1, 5, 4, 4, 1};
        for (int e = 0; e < due.length; e++) {
            int asked = e;
            CHECK.due("leaf(" + e + ")", due[e], () -> maker.leaf(asked));
        }
        CHECK.refused("leaf(5)", Check.ELEMENT, () -> maker.leaf(5));
        CHECK.refused("leaf(-1)", Check.ELEMENT, () -> maker.leaf(-1));
        maker.solve(1);
        CHECK.refused("leaf(5), none", Check.STATE, () -> maker.leaf(5));
        PartMaker stairs = stairs();
        stairs.solve(3);
        for (int e = 0; e < 5; e++) {
            int asked = e;
            CHECK.due("leaf(" + e + ")", e + 3, () -> stairs.leaf(asked));
        }
    }

    private static void apart() {
        CHECK.promise("promise 32");
        PartMaker maker = steps();
        CHECK.due("apart(1, 0), -5", 0, () -> maker.apart(1, 0));
        CHECK.due("apart(4, 0), 5", -9, () -> maker.apart(4, 0));
        CHECK.due("apart(4, 1)", 0, () -> maker.apart(4, 1));
        CHECK.due("apart(4, 2)", 0, () -> maker.apart(4, 2));
        CHECK.refused("apart(6, 0)", Check.ELEMENT, () -> maker.apart(6, 0));
        CHECK.refused("apart(4, 3)", Check.ELEMENT, () -> maker.apart(4, 3));
        CHECK.refused("apart(4, -1)", Check.ELEMENT, () -> maker.apart(4, -1));
        PartMaker stairs = stairs();
        CHECK.refused("apart(99, 9), none", Check.STATE, () -> stairs.apart(99, 9));
        stairs.solve(3);
        CHECK.due("apart(3, 0), alike from -9 to 9", -100, () -> stairs.apart(3, 0));
        // x and min(x,-(y)) are unlike where x+y is above 0: x -8 comes first, y 9 there
        PartMaker order = Check.ofTwo(1, 0, 1, -3, 1, -3, 2, -5, 2);
        Check.allowNoPart(order);
        Check.allowPart(order, 3);
        Check.allowPart(order, 5);
        for (int size = 1; size <= 4; size++) {
            order.grow(false);
        }
        order.solve(0);
        CHECK.writes("write(false, 12)", "min(x,-(y))", order, () -> order.write(false, 12));
        CHECK.due("apart(12, 0)", -8, () -> order.apart(12, 0));
        CHECK.due("apart(12, 1)", 9, () -> order.apart(12, 1));
        CHECK.due("apart(12, 2)", 0, () -> order.apart(12, 2));
        CHECK.due("apart(0, 0), itself", -100, () -> order.apart(0, 0));
        CHECK.due("differs(false, 0, 12)", 171, () -> order.differs(false, 0, 12));
    }

    private static void without() {
        CHECK.promise("promise 33");
        PartMaker maker = Check.ofOne(1, -1, 0, 0);
        maker.constant(-1);
        maker.grow(false);
        maker.grow(false);
        maker.grow(true);
        CHECK.due("solve(1), -(x)", 2, () -> maker.solve(1));
        CHECK.due("without(5, 0)", -1, () -> maker.without(5, 0));
        CHECK.due("without(5, 1), [(x‹1)?x:-1]", 6, () -> maker.without(5, 1));
        CHECK.due("without(4, 1)", 2, () -> maker.without(4, 1));
        CHECK.due("solved(0), stays", 2, () -> maker.solved(0));
        CHECK.due("solve(1), again", 2, () -> maker.solve(1));
        CHECK.refused("without(10, 0)", Check.ARGUMENT, () -> maker.without(10, 0));
        CHECK.refused("without(-1, 0)", Check.ARGUMENT, () -> maker.without(-1, 0));
        CHECK.refused("without(0, 4)", Check.ARGUMENT, () -> maker.without(0, 4));
        CHECK.refused("without(0, -1)", Check.ARGUMENT, () -> maker.without(0, -1));
        CHECK.refused("without(0, 4) without EXAMPLES", Check.ARGUMENT, () -> new PartMaker().without(0, 4));
        CHECK.refused("without(0, 0) without EXAMPLES", Check.STATE, () -> new PartMaker().without(0, 0));
        PartMaker two = twoParts();
        two.make(1);
        CHECK.due("without(0, 1)", -1, () -> two.without(0, 1));
        CHECK.due("without(1, 1)", 10, () -> two.without(1, 1));
        // the TEST has negative: no other one tells -3 from -1
        PartMaker tested = Check.ofOne(-3, 0, -1, 1);
        Check.allowNoPart(tested);
        Check.allowPart(tested, 5);
        tested.grow(false);
        tested.grow(false);
        tested.grow(true);
        tested.grow(true);
        CHECK.due("solve(1), [(x‹-(1))?0:1]", 7, () -> tested.solve(1));
        CHECK.due("without(5, 1), TESTS too", -1, () -> tested.without(5, 1));
    }

    private static void ties() {
        CHECK.promise("promise 34");
        PartMaker maker = steps();
        CHECK.due("ties(0)", 0, () -> maker.ties(0));
        CHECK.due("ties(1)", 0, () -> maker.ties(1));
        CHECK.due("ties(2)", 10, () -> maker.ties(2));
        CHECK.due("ties(3)", 10, () -> maker.ties(3));
        CHECK.refused("ties(4)", Check.ARGUMENT, () -> maker.ties(4));
        CHECK.refused("ties(-1)", Check.ARGUMENT, () -> maker.ties(-1));
        CHECK.refused("ties(0) without EXAMPLES", Check.STATE, () -> new PartMaker().ties(0));
        CHECK.refused("ties(4) without EXAMPLES", Check.ARGUMENT, () -> new PartMaker().ties(4));
        // five leaves in order make 14 trees, 8 of them too deep; each of four ifs has two TESTS
        PartMaker stairs = stairs();
        CHECK.due("ties(3)", 6 * 16, () -> stairs.ties(3));
        PartMaker most = new PartMaker();
        most.many(3);
        int[] told = {6, 4, 4, 0, 5, 9, 7, 1, 8, 2, 0, 2, 3, 0, 2, 3, 9, 2, 9, 4, 0, 5, 5, 5, 7, 8, 3, 6,
            1, 3, 1, 7};
        for (int i = 0; i < told.length; i += 4) {
            most.example(told[i], told[i + 1], told[i + 2], told[i + 3]);
        }
        Check.allowNoPart(most);
        for (int v = 2; v <= 9; v++) {
            most.constant(v);
        }
        most.grow(false);
        most.grow(true);
        CHECK.due("ties(3), at most", 1000000000, () -> most.ties(3));
    }

    private static void needed() {
        CHECK.promise("promise 35");
        CHECK.refused("needed() without EXAMPLES", Check.STATE, () -> new PartMaker().needed());
        PartMaker maker = Check.ofOne(3, 3);
        CHECK.due("needed(), nothing grown", -1, () -> maker.needed());
        maker.grow(false);
        CHECK.due("needed(), x", 0, () -> maker.needed());
        CHECK.due("count(6), nothing SOLVED by it", 0, () -> maker.count(6));
        PartMaker two = twoParts();
        two.make(1);
        CHECK.due("needed()", 1, () -> two.needed());
        CHECK.due("needed()", 2, () -> steps().needed());
        CHECK.due("needed()", 3, () -> stairs().needed());
        // x*(x*(x*x)) needs none, though with one if there is a smaller PROGRAM
        PartMaker power = Check.ofOne(0, 0, 1, 1, 2, 16);
        Check.allowOnly(power, 2);
        power.constant(16);
        Check.grow(power, false, 7);
        power.grow(true);
        CHECK.due("solve(0)", 7, () -> power.solve(0));
        CHECK.due("solve(1)", 6, () -> power.solve(1));
        CHECK.writes("writeSolved()", "[(1<x)?16:x]", power, () -> power.writeSolved());
        CHECK.due("needed(), SOLVED has an if", 0, () -> power.needed());
        PartMaker none = Check.ofOne(3, 33);
        none.grow(false);
        CHECK.due("needed(), NONE", -1, () -> none.needed());
    }

    private static void solvedUses() {
        CHECK.promise("promise 36");
        PartMaker maker = twoParts();
        CHECK.refused("solvedUses(10), none", Check.STATE, () -> maker.solvedUses(10));
        maker.make(1);
        CHECK.due("solvedUses(0)", 1, () -> maker.solvedUses(0));
        CHECK.due("solvedUses(1)", 0, () -> maker.solvedUses(1));
        CHECK.due("solvedUses(2)", 1, () -> maker.solvedUses(2));
        CHECK.refused("solvedUses(10)", Check.ARGUMENT, () -> maker.solvedUses(10));
        CHECK.refused("solvedUses(-1)", Check.ARGUMENT, () -> maker.solvedUses(-1));
        PartMaker tested = Check.ofOne(-3, 0, -1, 1);
        Check.allowNoPart(tested);
        Check.allowPart(tested, 5);
        tested.grow(false);
        tested.grow(false);
        tested.grow(true);
        tested.grow(true);
        tested.solve(1);
        CHECK.due("solvedUses(5), in the TEST", 1, () -> tested.solvedUses(5));
    }

    private static void way() {
        CHECK.promise("promise 37");
        PartMaker maker = GrowthTest.steps();
        CHECK.refused("way(100, 0, 0, 0), none", Check.STATE, () -> maker.way(100, 0, 0, 0));
        maker.make(2);
        CHECK.due("way(-1, 0, 0, 0)", 3, () -> maker.way(-1, 0, 0, 0));
        CHECK.due("way(-1, 0, 0, 1)", -1, () -> maker.way(-1, 0, 0, 1));
        CHECK.due("way(0, 0, 0, 0)", 2, () -> maker.way(0, 0, 0, 0));
        CHECK.due("way(0, 0, 0, 1)", 5, () -> maker.way(0, 0, 0, 1));
        CHECK.due("way(9, 0, 0, 1)", 4, () -> maker.way(9, 0, 0, 1));
        CHECK.due("way(9, 0, 0, 2)", -1, () -> maker.way(9, 0, 0, 2));
        CHECK.due("way(9, 0, 0, -1)", -1, () -> maker.way(9, 0, 0, -1));
        CHECK.refused("way(100, 0, 0, 0)", Check.ARGUMENT, () -> maker.way(100, 0, 0, 0));
        CHECK.refused("way(0, 1, 0, 0)", Check.ARGUMENT, () -> maker.way(0, 1, 0, 0));
        PartMaker stairs = stairs();
        stairs.solve(3);
        int[] due = {0, 5, 2, -1};
        for (int k = 0; k < due.length; k++) {
            int asked = k;
            CHECK.due("way(25, 0, 0, " + k + ")", due[k], () -> stairs.way(25, 0, 0, asked));
        }
        PartMaker one = Check.ofOne(3, 3);
        one.make(0);
        CHECK.due("way(3, 0, 0, 0), no if", -1, () -> one.way(3, 0, 0, 0));
    }

    private static void isIdle() {
        CHECK.promise("promise 38");
        PartMaker maker = GrowthTest.steps();
        CHECK.refused("isIdle(9), none", Check.STATE, () -> maker.isIdle(9) ? 1 : 0);
        maker.make(2);
        boolean[] due = {false, false, false, true, true};
        for (int e = 0; e < due.length; e++) {
            int asked = e;
            CHECK.is("isIdle(" + e + ")", due[e], () -> maker.isIdle(asked));
        }
        CHECK.refused("isIdle(5)", Check.ELEMENT, () -> maker.isIdle(5) ? 1 : 0);
        CHECK.refused("isIdle(-1)", Check.ELEMENT, () -> maker.isIdle(-1) ? 1 : 0);
        CHECK.due("solved(0), as before", 11, () -> maker.solved(0));
        PartMaker one = Check.ofOne(3, 3);
        one.make(0);
        CHECK.is("isIdle(0) of one alone", false, () -> one.isIdle(0));
        PartMaker two = Check.ofOne(3, 3, 1, 1);
        two.make(0);
        CHECK.is("isIdle(0), x", true, () -> two.isIdle(0));
        CHECK.is("isIdle(1), x", true, () -> two.isIdle(1));
    }

    private static void isIdleByWhatIsKeptNow() {
        CHECK.promise("promise 38, the ifs of the call, by what is KEPT now");
        PartMaker maker = Check.ofOne(-2, 0, 2, 1, -3, 0);
        Check.allowNoPart(maker);
        Check.allowPart(maker, 1);
        Check.allowPart(maker, 9);
        for (int size = 1; size <= 7; size++) {
            maker.grow(false);
        }
        CHECK.due("solve(1), no TESTS", 7, () -> maker.solve(1));
        CHECK.writes("writeSolved()", "(1-sgn((1-sgn(x))))", maker, () -> maker.writeSolved());
        CHECK.is("isIdle(0)", true, () -> maker.isIdle(0));
        maker.solve(0);
        maker.grow(true);
        CHECK.is("isIdle(0), SOLVED with 0 ifs", true, () -> maker.isIdle(0));
        CHECK.due("solve(1), by TESTS", 6, () -> maker.solve(1));
        CHECK.writes("writeSolved()", "[(x<0)?0:1]", maker, () -> maker.writeSolved());

        PartMaker grown = Check.ofOne(-2, 0, 2, 1, -3, 0);
        Check.allowNoPart(grown);
        Check.allowPart(grown, 1);
        Check.allowPart(grown, 9);
        for (int size = 1; size <= 7; size++) {
            grown.grow(false);
        }
        grown.solve(1);
        grown.grow(true);
        CHECK.is("isIdle(0), SOLVED with 1 if, [(x‹0)?0:1] would be now", false, () -> grown.isIdle(0));
        CHECK.due("solved(0), stays", 7, () -> grown.solved(0));
        PartMaker other = Check.ofOne(0, 0, 1, 0, 2, 7);
        other.constants();
        other.grow(false);
        other.grow(true);
        other.solve(1);
        CHECK.is("isIdle(0)", true, () -> other.isIdle(0));
        CHECK.is("isIdle(1)", false, () -> other.isIdle(1));
        CHECK.is("isIdle(2)", false, () -> other.isIdle(2));
    }

    private static void isIdleOfTwelve() {
        CHECK.promise("promise 38, of twelve EXAMPLES");
        PartMaker maker = new PartMaker();
        for (int e = 0; e < 12; e++) {
            maker.example(10 * e - 50, 0, 0, e < 9 ? 10 * e - 50 : e < 11 ? 0 : 1);
        }
        Check.allowNoPart(maker);
        maker.constant(35);
        maker.constant(55);
        maker.grow(false);
        maker.grow(true);
        CHECK.due("solve(3)", 11, () -> maker.solve(3));
        CHECK.writes("writeSolved()", "[(x<35)?x:[(x<55)?0:1]]", maker, () -> maker.writeSolved());
        for (int e = 0; e < 12; e++) {
            int asked = e;
            CHECK.is("isIdle(" + e + "), the last alone comes to 1", e < 11, () -> maker.isIdle(asked));
        }
    }

    private static void isIdleBehindTies() {
        CHECK.promise("promise 38, 'the ifs of the call by which it was SOLVED', behind ties() with others");
        PartMaker maker = Check.ofOne(-2, 0, 2, 1, -3, 0);
        Check.allowOnly(maker, 1, 9);
        Check.grow(maker, false, 7);
        maker.solve(0);
        maker.grow(true);
        CHECK.is("isIdle(0), SOLVED with 0 ifs", true, () -> maker.isIdle(0));
        CHECK.due("ties(1)", 2, () -> maker.ties(1));
        CHECK.is("isIdle(0), as before", true, () -> maker.isIdle(0));
        CHECK.due("needed()", 0, () -> maker.needed());
        CHECK.due("without(0, 1)", 6, () -> maker.without(0, 1));
        CHECK.is("isIdle(0), as before", true, () -> maker.isIdle(0));
        CHECK.writes("writeSolved()", "(1-sgn((1-sgn(x))))", maker, () -> maker.writeSolved());
    }

    private static void isIdleBehindWithout() {
        CHECK.promise("promise 38, behind without()");
        PartMaker maker = Check.ofOne(1, -1, 0, 0, 5, -5);
        maker.make(0);
        CHECK.due("solved(0), -(x)", 2, () -> maker.solved(0));
        CHECK.due("without(5, 0)", -1, () -> maker.without(5, 0));
        CHECK.is("isIdle(2)", true, () -> maker.isIdle(2));
        CHECK.is("isIdle(0)", true, () -> maker.isIdle(0));
    }

    private static void foundAnew() {
        CHECK.promise("promises 34, 35 and 40, found anew as more grows");
        PartMaker maker = GrowthTest.steps();
        maker.grow(false);
        CHECK.due("needed(), no TESTS", -1, () -> maker.needed());
        CHECK.due("ties(2), no TESTS", 0, () -> maker.ties(2));
        maker.grow(true);
        CHECK.due("needed()", 2, () -> maker.needed());
        CHECK.due("ties(2)", 10, () -> maker.ties(2));
        CHECK.due("fewest()", 3, () -> maker.fewest());
        maker.drop(1);
        CHECK.due("fewest(), gone", -1, () -> maker.fewest());
        maker.grow(false);
        maker.grow(true);
        // x -4, 4, 5, -6: (x<0), (x<1) are alike, and (0<x): two TESTS are KEPT
        CHECK.due("fewest()", 2, () -> maker.fewest());
        CHECK.due("needed()", 1, () -> maker.needed());
        CHECK.due("ties(2)", 2, () -> maker.ties(2));
    }

    private static void fits() {
        CHECK.promise("promise 39");
        PartMaker maker = steps();
        CHECK.due("fits(17, 1)", 1, () -> maker.fits(17, 1));
        CHECK.due("fits(12, 1)", 4, () -> maker.fits(12, 1));
        CHECK.due("fits(8, 1), x", 0, () -> maker.fits(8, 1));
        CHECK.due("fits(8, 0)", 1, () -> maker.fits(8, 0));
        CHECK.due("fits(3, 1)", -1, () -> maker.fits(3, 1));
        CHECK.due("fits(3, 0)", -1, () -> maker.fits(3, 0));
        CHECK.refused("fits(0, 0)", Check.ARGUMENT, () -> maker.fits(0, 0));
        CHECK.refused("fits(32, 9)", Check.ARGUMENT, () -> maker.fits(32, 9));
        CHECK.refused("fits(-1, 0)", Check.ARGUMENT, () -> maker.fits(-1, 0));
        CHECK.refused("fits(1, 2)", Check.ELEMENT, () -> maker.fits(1, 2));
        CHECK.refused("fits(1, -1)", Check.ELEMENT, () -> maker.fits(1, -1));
        PartMaker odd = Check.ofOne(0, 1, 1, 3, 2, 5);
        odd.make(0);
        CHECK.due("fits(7, 0)", 5, () -> odd.fits(7, 0));
        CHECK.due("fits(7, 1)", 20, () -> odd.fits(7, 1));
    }

    private static void fewest() {
        CHECK.promise("promise 40");
        CHECK.due("fewest() without EXAMPLES", 0, () -> new PartMaker().fewest());
        PartMaker maker = GrowthTest.steps();
        CHECK.due("fewest(), nothing grown", -1, () -> maker.fewest());
        maker.grow(false);
        CHECK.due("fewest()", 3, () -> maker.fewest());
        CHECK.due("fewest()", 5, () -> stairs().fewest());
        PartMaker odd = Check.ofOne(0, 1, 1, 3, 2, 5);
        odd.grow(false);
        CHECK.due("fewest(), some not COVERED", -1, () -> odd.fewest());
        odd.make(0);
        CHECK.due("fewest(), SOLVED", 1, () -> odd.fewest());
        // x COVERS four and y none, but with 1 and 2 (three each) two are enough
        PartMaker greedy = Check.ofTwo(1, 7, 1, 1, 0, 1, 5, 9, 1, 2, 7, 2, 2, 0, 2, 5, 8, 2);
        Check.allowNoPart(greedy);
        greedy.constant(2);
        greedy.grow(false);
        CHECK.due("kept(false, 0, 2), x", 1 + 2 + 8 + 16, () -> greedy.kept(false, 0, 2));
        CHECK.due("kept(false, 1, 2), y", 0, () -> greedy.kept(false, 1, 2));
        CHECK.due("fewest(), 1 and 2", 2, () -> greedy.fewest());
    }

    private static void splits() {
        CHECK.promise("promise 41");
        PartMaker maker = steps();
        CHECK.due("splits(1, 2)", 1, () -> maker.splits(1, 2));
        CHECK.due("splits(2, 1)", 6, () -> maker.splits(2, 1));
        CHECK.due("splits(12, 2)", 5, () -> maker.splits(12, 2));
        CHECK.due("splits(15, 16)", 4, () -> maker.splits(15, 16));
        CHECK.due("splits(1, 16)", 4, () -> maker.splits(1, 16));
        CHECK.due("splits(5, 2)", -1, () -> maker.splits(5, 2));
        CHECK.refused("splits(0, 1)", Check.ARGUMENT, () -> maker.splits(0, 1));
        CHECK.refused("splits(1, 0)", Check.ARGUMENT, () -> maker.splits(1, 0));
        CHECK.refused("splits(3, 2)", Check.ARGUMENT, () -> maker.splits(3, 2));
        CHECK.refused("splits(1, 32)", Check.ARGUMENT, () -> maker.splits(1, 32));
        CHECK.refused("splits(32, 1)", Check.ARGUMENT, () -> maker.splits(32, 1));
        CHECK.refused("splits(-1, 1)", Check.ARGUMENT, () -> maker.splits(-1, 1));
    }
}
