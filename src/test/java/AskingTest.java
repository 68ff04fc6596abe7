import java.util.ArrayList;
import java.util.List;

/**
 * 'Nothing is promised beyond the answers and state changes described': calls that only ask change
 * nothing, and those that WRITE nothing but what is WRITTEN (each state here has x WRITTEN latest).
 */
public final class AskingTest {
    private static final Check CHECK = new Check();

    private interface Start {
        PartMaker make();
    }

    public static void main(String[] args) {
        CHECK.promise("asked where [(1<x)?7:0] is SOLVED with 1 if");
        askAll(AskingTest::withAnIf);
        firstIsIdle(withAnIf(), true);
        CHECK.promise("asked where (1-sgn((1-sgn(x)))) is SOLVED with 0 ifs, though TESTS are KEPT");
        askAll(() -> aheadOfTests(0));
        firstIsIdle(aheadOfTests(0), true);
        CHECK.promise("asked where the same is SOLVED with 1 if");
        askAll(() -> aheadOfTests(1));
        firstIsIdle(aheadOfTests(1), false);
        CHECK.promise("asked where none is SOLVED");
        askAll(AskingTest::unsolved);
        CHECK.end();
    }

    private static PartMaker withAnIf() {
        PartMaker maker = Check.ofOne(0, 0, 1, 0, 2, 7);
        maker.constants();
        maker.make(1);
        maker.budget(4321);
        maker.write(false, 0);
        return maker;
    }

    /** With 1 if [(x<0)?0:1] would be SOLVED now: the first EXAMPLE is not IDLE then. */
    private static PartMaker aheadOfTests(int ifs) {
        PartMaker maker = Check.ofOne(-2, 0, 2, 1, -3, 0);
        Check.allowOnly(maker, 1, 9);
        Check.grow(maker, false, 7);
        maker.solve(ifs);
        maker.grow(true);
        maker.budget(4321);
        maker.write(false, 0);
        return maker;
    }

    private static PartMaker unsolved() {
        PartMaker maker = withAnIf();
        maker.solve(0);
        return maker;
    }

    private static void askAll(Start start) {
        String facts = Facts.of(start.make());
        int calls = callsOf(start.make()).size();
        for (int c = 0; c < calls; c++) {
            PartMaker maker = start.make();
            callsOf(maker).get(c).ask();
            CHECK.unchanged("behind call " + c, facts, maker);
        }
    }

    private static void firstIsIdle(PartMaker maker, boolean due) {
        Facts.of(maker);
        CHECK.is("isIdle(0), behind all that Facts ask", due, () -> maker.isIdle(0));
        CHECK.due("count(4), behind all that Facts ask", 4321, () -> maker.count(4));
    }

    private static List<Check.Call> callsOf(PartMaker m) {
        List<Check.Call> calls = new ArrayList<>();
        addTold(calls, m);
        addKept(calls, m, false);
        addKept(calls, m, true);
        addSets(calls, m);
        calls.add(() -> m.needed());
        for (int ifs = 0; ifs <= 3; ifs++) {
            int told = ifs;
            calls.add(() -> m.ties(told));
            calls.add(() -> m.without(1, told));
            calls.add(() -> m.without(9, told));
        }
        if (m.count(6) == 1) {
            addSolved(calls, m);
        }
        return calls;
    }

    private static void addTold(List<Check.Call> calls, PartMaker m) {
        for (int what = -1; what <= 7; what++) {
            int told = what;
            calls.add(() -> m.count(told));
        }
        calls.add(() -> m.told(1, 3));
        calls.add(() -> m.constantAt(0));
        calls.add(() -> m.octet(0));
        calls.add(() -> m.octet(99));
    }

    private static void addKept(List<Check.Call> calls, PartMaker m, boolean tests) {
        for (int what = 0; what <= 5; what++) {
            int told = what;
            calls.add(() -> m.grown(tests, told));
            calls.add(() -> m.kept(tests, 1, told % 3));
        }
        calls.add(() -> m.ofSize(tests, 3));
        for (int k = 0; k <= 3; k++) {
            int told = Math.min(k, m.grown(tests, 0) - 1);
            calls.add(() -> m.output(tests, told, 1));
            calls.add(() -> m.value(tests, told, 5, 0, 0));
            calls.add(() -> m.uses(tests, told, 1));
            calls.add(() -> m.unlike(tests, 0, told));
            calls.add(() -> m.differs(tests, 0, told));
            calls.add(() -> m.mergedApart(tests, told, 0));
            calls.add(() -> m.write(tests, told) + m.write(false, 0));
            // where none was MERGED what is WRITTEN stays
            calls.add(() -> m.writeMerged(tests, told) < 0 ? 0 : m.write(false, 0));
        }
    }

    private static void addSets(List<Check.Call> calls, PartMaker m) {
        for (int set = 1; set <= 7; set++) {
            int told = set;
            calls.add(() -> m.testOf(told));
            calls.add(() -> m.fits(told, 0));
            calls.add(() -> m.fits(told, 1));
            calls.add(() -> told == 7 ? 0 : m.splits(told, 7 - told));
        }
        for (int part = 0; part <= 9; part++) {
            int told = part;
            calls.add(() -> m.joins(told, 2, 1));
        }
        calls.add(() -> m.far(1));
        calls.add(() -> m.nearest());
        calls.add(() -> m.fewest());
    }

    private static void addSolved(List<Check.Call> calls, PartMaker m) {
        for (int what = 0; what <= 5; what++) {
            int told = what;
            calls.add(() -> m.solved(told));
        }
        for (int e = 0; e <= 2; e++) {
            int told = e;
            calls.add(() -> m.leaf(told));
            calls.add(() -> m.isIdle(told) ? 1 : 0);
            calls.add(() -> m.way(5, 0, 0, told));
        }
        calls.add(() -> m.comes(5, 0, 0));
        calls.add(() -> m.solvedUses(1));
        calls.add(() -> m.writeSolved() + m.write(false, 0));
        // the last is also of EXPRESSIONS that are ALIKE with what is SOLVED
        for (int k = 0; k < m.grown(false, 0); k++) {
            int told = k;
            calls.add(() -> m.apart(told, 0));
        }
    }
}
