import java.util.ArrayList;
import java.util.List;

/**
 * The paragraph on exceptions behind WRITTEN: of several exceptions the one told first at the call; a
 * call that throws changes nothing; what makes all that was MADE go; what is WRITTEN stays.
 */
public final class RefusalLimitsTest {
    private static final Check CHECK = new Check();

    public static void main(String[] args) {
        argumentAheadOfState();
        elementAheadOfArgument();
        argumentAheadOfElement();
        stateAheadOfAll();
        stateAheadOfArgument();
        everyRefusedCallChangesNothing();
        refusedTellingKeepsAll();
        whatMakesAllGo();
        whatMakesNothingGo();
        goesThoughNothingChanges();
        growsAnewAsBefore();
        writtenStays();
        CHECK.end();
    }

    private interface Step {
        void take(PartMaker maker);
    }

    /** Three EXAMPLES, grown, SOLVED as [(1<x)?7:0], WRITTEN. */
    private static PartMaker solved() {
        PartMaker maker = Check.ofOne(0, 0, 1, 0, 2, 7);
        maker.constants();
        maker.make(1);
        maker.writeSolved();
        return maker;
    }

    private static PartMaker withTwelve() {
        PartMaker maker = new PartMaker();
        for (int x = 0; x < 12; x++) {
            maker.example(x, 0, 0, x);
        }
        for (int v = 2; v <= 9; v++) {
            maker.constant(v);
        }
        maker.make(0);
        maker.grow(true);
        maker.writeSolved();
        return maker;
    }

    private static void argumentAheadOfState() {
        CHECK.promise("'Of several exceptions the one told first': IllegalArgumentException, IllegalStateException");
        PartMaker full = withTwelve();
        CHECK.refused("example, none and the 13th", Check.ARGUMENT, () -> full.example(100, 0, 0, 0));
        CHECK.refused("example, WANTED none and the 13th", Check.ARGUMENT, () -> full.example(50, 0, 0, 1000));
        CHECK.refused("example, z none, there already", Check.ARGUMENT, () -> full.example(0, 0, 1, 0));
        CHECK.refused("example, WANTED none, there already", Check.ARGUMENT, () -> full.example(0, 0, 0, -1000));
        CHECK.refused("constant, none and full", Check.ARGUMENT, () -> full.constant(100) ? 1 : 0);
        PartMaker none = new PartMaker();
        CHECK.refused("solve(4)", Check.ARGUMENT, () -> none.solve(4));
        CHECK.refused("make(-1)", Check.ARGUMENT, () -> none.make(-1));
        CHECK.refused("without(10, 0)", Check.ARGUMENT, () -> none.without(10, 0));
        CHECK.refused("without(0, 4)", Check.ARGUMENT, () -> none.without(0, 4));
        CHECK.refused("ties(4)", Check.ARGUMENT, () -> none.ties(4));
    }

    private static void elementAheadOfArgument() {
        CHECK.promise("'Of several exceptions the one told first': NoSuchElementException, IllegalArgumentException");
        PartMaker maker = solved();
        CHECK.refused("value, k and x", Check.ELEMENT, () -> maker.value(false, 99, 100, 0, 0));
        CHECK.refused("value of a TEST, k and y", Check.ELEMENT, () -> maker.value(true, -1, 0, 1, 0));
        CHECK.refused("uses, k and PART", Check.ELEMENT, () -> maker.uses(false, 99, 10));
        CHECK.refused("uses of a TEST, k and PART", Check.ELEMENT, () -> maker.uses(true, -1, -1));
    }

    private static void argumentAheadOfElement() {
        CHECK.promise("'Of several exceptions the one told first': IllegalArgumentException, NoSuchElementException");
        PartMaker maker = solved();
        CHECK.refused("joins, PART and first", Check.ARGUMENT, () -> maker.joins(10, 99, 0));
        CHECK.refused("joins, PART and second", Check.ARGUMENT, () -> maker.joins(-1, 0, 99));
        CHECK.refused("fits, empty and what", Check.ARGUMENT, () -> maker.fits(0, 2));
        CHECK.refused("fits, none of and what", Check.ARGUMENT, () -> maker.fits(8, -1));
    }

    private static void stateAheadOfAll() {
        CHECK.promise("'Of several exceptions the one told first': IllegalStateException, NoSuchElementException");
        PartMaker maker = Check.ofOne(3, 3);
        CHECK.refused("solved(6)", Check.STATE, () -> maker.solved(6));
        CHECK.refused("leaf(9)", Check.STATE, () -> maker.leaf(9));
        CHECK.refused("apart(9, 0)", Check.STATE, () -> maker.apart(9, 0));
        CHECK.refused("apart(0, 3)", Check.STATE, () -> maker.apart(0, 3));
        CHECK.refused("isIdle(9)", Check.STATE, () -> maker.isIdle(9) ? 1 : 0);
    }

    private static void stateAheadOfArgument() {
        CHECK.promise("'Of several exceptions the one told first': IllegalStateException, IllegalArgumentException");
        PartMaker maker = Check.ofOne(3, 3);
        CHECK.refused("comes(100, 0, 0)", Check.STATE, () -> maker.comes(100, 0, 0));
        CHECK.refused("comes(0, 1, 0)", Check.STATE, () -> maker.comes(0, 1, 0));
        CHECK.refused("solvedUses(10)", Check.STATE, () -> maker.solvedUses(10));
        CHECK.refused("way(0, 0, 1, 0)", Check.STATE, () -> maker.way(0, 0, 1, 0));
    }

    private static List<Check.Call> refusedCalls(PartMaker m) {
        List<Check.Call> calls = new ArrayList<>();
        calls.add(() -> m.many(0));
        calls.add(() -> m.example(0, 0, 0, 9));
        calls.add(() -> m.example(50, 0, 0, 1000));
        calls.add(() -> m.drop(-1));
        calls.add(() -> m.part(10, false) ? 1 : 0);
        calls.add(() -> m.constant(-100) ? 1 : 0);
        calls.add(() -> m.budget(0));
        calls.add(() -> m.grown(false, 6));
        calls.add(() -> m.kept(false, 0, 3));
        calls.add(() -> m.output(false, 0, -1));
        calls.add(() -> m.value(false, 0, 0, 0, 1));
        calls.add(() -> m.write(false, -1));
        calls.add(() -> m.testOf(-1));
        calls.add(() -> m.joins(0, 0, -1));
        calls.add(() -> m.unlike(true, 0, -1));
        calls.add(() -> m.uses(false, 0, 10));
        calls.add(() -> m.far(-1));
        calls.add(() -> m.writeMerged(true, -1));
        calls.add(() -> m.mergedApart(false, 0, 3));
        calls.add(() -> m.differs(false, 0, -1));
        calls.add(() -> m.solve(4));
        calls.add(() -> m.make(4));
        calls.add(() -> m.solved(6));
        calls.add(() -> m.comes(100, 0, 0));
        calls.add(() -> m.leaf(-1));
        calls.add(() -> m.apart(0, 3));
        calls.add(() -> m.without(10, 0));
        calls.add(() -> m.ties(4));
        calls.add(() -> m.solvedUses(10));
        calls.add(() -> m.way(0, 1, 0, 0));
        calls.add(() -> m.isIdle(-1) ? 1 : 0);
        calls.add(() -> m.fits(0, 0));
        calls.add(() -> m.splits(1, 1));
        calls.add(() -> m.told(0, 4));
        calls.add(() -> m.constantAt(-1));
        return calls;
    }

    private static void everyRefusedCallChangesNothing() {
        CHECK.promise("'a call that throws changes nothing'");
        for (PartMaker maker : new PartMaker[] {solved(), withTwelve()}) {
            String facts = Facts.of(maker);
            List<Check.Call> calls = refusedCalls(maker);
            for (int c = 0; c < calls.size(); c++) {
                Check.Call call = calls.get(c);
                CHECK.due("refused call " + c, 1, () -> isRefused(call) ? 1 : 0);
                CHECK.unchanged("refused call " + c, facts, maker);
            }
        }
    }

    private static boolean isRefused(Check.Call call) {
        try {
            call.ask();
            return false;
        } catch (RuntimeException e) {
            return true;
        }
    }

    private static void refusedTellingKeepsAll() {
        CHECK.promise("'many(), example(), drop(), part(), constant(), constants() that are not refused'");
        PartMaker maker = withTwelve();
        String facts = Facts.of(maker);
        CHECK.refused("many(4)", Check.ARGUMENT, () -> maker.many(4));
        CHECK.refused("the 13th EXAMPLE", Check.STATE, () -> maker.example(50, 0, 0, 0));
        CHECK.refused("the same EXAMPLE", Check.STATE, () -> maker.example(0, 0, 0, 0));
        CHECK.refused("drop(12)", Check.ELEMENT, () -> maker.drop(12));
        CHECK.refused("part(-1, true)", Check.ARGUMENT, () -> maker.part(-1, true) ? 1 : 0);
        CHECK.refused("the ninth CONSTANT", Check.STATE, () -> maker.constant(10) ? 1 : 0);
        CHECK.refused("constant(100)", Check.ARGUMENT, () -> maker.constant(100) ? 1 : 0);
        CHECK.unchanged("refused", facts, maker);
        CHECK.due("solved(5)", 0, () -> maker.solved(5));
    }

    private static void goes(String told, boolean isGone, Step step) {
        PartMaker maker = solved();
        String before = Facts.of(maker);
        int[] grown = new int[12];
        for (int what = 0; what < 12; what++) {
            grown[what] = maker.grown(what < 6, what % 6);
        }
        step.take(maker);
        for (int what = 0; what < 12; what++) {
            int asked = what;
            int due = isGone ? 0 : grown[what];
            CHECK.due("grown(" + (what < 6) + ", " + what % 6 + ") behind " + told, due,
                    () -> maker.grown(asked < 6, asked % 6));
        }
        CHECK.due("count(6) behind " + told, isGone ? 0 : 1, () -> maker.count(6));
        CHECK.due("testOf(1) behind " + told, isGone ? -1 : 0, () -> maker.count(1) == 0 ? -1 : maker.testOf(1));
        CHECK.due("nearest() behind " + told, isGone ? -1 : 0, () -> maker.nearest());
        if (isGone) {
            CHECK.refused("kept(false, 0, 0) behind " + told, Check.ELEMENT, () -> maker.kept(false, 0, 0));
            CHECK.refused("kept(true, 0, 0) behind " + told, Check.ELEMENT, () -> maker.kept(true, 0, 0));
            CHECK.refused("solved(0) behind " + told, Check.STATE, () -> maker.solved(0));
        } else {
            CHECK.unchanged(told, before, maker);
        }
    }

    private static void whatMakesAllGo() {
        CHECK.promise("'make all that was MADE go'");
        goes("many(2)", true, maker -> maker.many(2));
        goes("example", true, maker -> maker.example(9, 0, 0, 9));
        goes("drop of the first", true, maker -> maker.drop(0));
        goes("drop of the last", true, maker -> maker.drop(2));
        goes("part(0, false)", true, maker -> maker.part(0, false));
        goes("part(9, true)", true, maker -> maker.part(9, true));
        goes("constant(50)", true, maker -> maker.constant(50));
    }

    private static void goesThoughNothingChanges() {
        CHECK.promise("'make all that was MADE go, also where they change nothing'");
        goes("many(1)", true, maker -> maker.many(1));
        goes("part(0, true)", true, maker -> maker.part(0, true));
        goes("part(9, false)", true, maker -> maker.part(9, false));
        goes("constant(0)", true, maker -> maker.constant(0));
        goes("constant(7)", true, maker -> maker.constant(7));
        goes("constants()", true, maker -> maker.constants());
    }

    private static void whatMakesNothingGo() {
        CHECK.promise("'make all that was MADE go': no other call does");
        goes("budget", false, maker -> {
            maker.budget(1);
            maker.budget(5000);
        });
        goes("make(1), SOLVED already", false, maker -> maker.make(1));
        goes("solve(1)", false, maker -> maker.solve(1));
        goes("without, ties, needed", false, maker -> {
            maker.without(0, 0);
            maker.ties(3);
            maker.needed();
        });
        goes("fewest, fits, splits, testOf, joins", false, maker -> {
            maker.fewest();
            maker.fits(7, 1);
            maker.splits(1, 4);
            maker.testOf(7);
            maker.joins(2, 5, 5);
        });
        goes("write and back", false, maker -> {
            maker.write(false, 0);
            maker.writeSolved();
        });
    }

    private static void growsAnewAsBefore() {
        CHECK.promise("'all that was MADE go (LEVELS 0, numbers anew, counts of what was MADE 0, nothing SOLVED)'");
        PartMaker maker = solved();
        String facts = Facts.of(maker);
        for (int turn = 0; turn < 3; turn++) {
            maker.part(6, false);
            CHECK.due("make(1)", 6, () -> maker.make(1));
            CHECK.unchanged("grown anew", facts, maker);
        }
        PartMaker other = solved();
        other.many(1);
        other.example(2, 0, 0, 7);
        other.example(0, 0, 0, 0);
        other.example(1, 0, 0, 0);
        CHECK.due("make(1), in another order", 6, () -> other.make(1));
        CHECK.writes("writeSolved()", "[(1<x)?7:0]", other, () -> other.writeSolved());
        CHECK.due("testOf(1), 1<x", 1, () -> other.value(true, other.testOf(1), 2, 0, 0));
    }

    private static void writtenStays() {
        CHECK.promise("'what is WRITTEN stays until something else is'");
        Step[] steps = {maker -> maker.many(2), maker -> maker.example(9, 0, 0, 9), maker -> maker.drop(0),
            maker -> maker.part(0, false), maker -> maker.constant(50), maker -> maker.constants(),
            maker -> maker.budget(1), maker -> maker.grow(false), maker -> maker.grow(true), maker -> maker.solve(0),
            maker -> maker.make(2), maker -> maker.without(0, 0), maker -> maker.writeMerged(false, 5),
            maker -> maker.mergedApart(true, 0, 0), maker -> maker.isIdle(0)};
        String due = "[(1<x)?7:0]";
        for (int s = 0; s < steps.length; s++) {
            PartMaker maker = solved();
            steps[s].take(maker);
            CHECK.due("count(5) behind step " + s, due.length(), () -> maker.count(5));
            for (int k = 0; k < due.length(); k++) {
                int asked = k;
                CHECK.due("octet(" + k + ") behind step " + s, due.charAt(k), () -> maker.octet(asked));
            }
            CHECK.due("octet(11) behind step " + s, -1, () -> maker.octet(11));
        }
        PartMaker maker = solved();
        CHECK.writes("something else", "x", maker, () -> maker.write(false, 0));
    }
}
