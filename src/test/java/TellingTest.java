import java.util.Arrays;

/** Promises 1 to 8 and 42 to 44: what is told to a PartMaker, and asked back. */
public final class TellingTest {
    private static final Check CHECK = new Check();

    public static void main(String[] args) {
        newObject();
        many();
        example();
        drop();
        part();
        constant();
        constants();
        budget();
        allThatWasMadeGoes();
        whatIsRefusedChangesNothing();
        whatIsToldStays();
        count();
        told();
        constantAt();
        CHECK.end();
    }

    private static void newObject() {
        CHECK.promise("promise 1");
        PartMaker maker = new PartMaker();
        int[] due = {1, 0, 2, 63, 5000, 0, 0};
        for (int what = 0; what < due.length; what++) {
            int asked = what;
            CHECK.due("count(" + what + ")", due[what], () -> maker.count(asked));
        }
        CHECK.due("constantAt(0)", 0, () -> maker.constantAt(0));
        CHECK.due("constantAt(1)", 1, () -> maker.constantAt(1));
        CHECK.due("grown(false, 0)", 0, () -> maker.grown(false, 0));
        CHECK.due("grown(true, 2)", 0, () -> maker.grown(true, 2));
        CHECK.due("NONE", -1, () -> PartMaker.NONE);
    }

    private static void many() {
        CHECK.promise("promise 2");
        PartMaker maker = Check.ofOne(1, 1, 2, 2);
        CHECK.due("many(3)", 2, () -> maker.many(3));
        CHECK.due("count(0)", 3, () -> maker.count(0));
        CHECK.due("count(1)", 0, () -> maker.count(1));
        CHECK.due("example(1, 2, 3, 4)", 0, () -> maker.example(1, 2, 3, 4));
        CHECK.refused("many(0)", Check.ARGUMENT, () -> maker.many(0));
        CHECK.refused("many(4)", Check.ARGUMENT, () -> maker.many(4));
        CHECK.refused("many(-1)", Check.ARGUMENT, () -> maker.many(-1));
        CHECK.due("count(1), as refused", 1, () -> maker.count(1));
        CHECK.due("many(3) again", 1, () -> maker.many(3));
        CHECK.due("many(1)", 0, () -> maker.many(1));

        CHECK.promise("promise 2, EXAMPLES alone go");
        PartMaker told = Check.ofOne(1, 1, 2, 2);
        told.part(0, false);
        told.part(9, true);
        told.constant(-7);
        told.budget(77);
        CHECK.due("many(2)", 2, () -> told.many(2));
        CHECK.due("count(1)", 0, () -> told.count(1));
        CHECK.due("count(2), CONSTANTS stay", 3, () -> told.count(2));
        CHECK.due("constantAt(0)", -7, () -> told.constantAt(0));
        CHECK.due("count(3), PARTS stay", 63 - 1 + 512, () -> told.count(3));
        CHECK.due("count(4), BUDGET stays", 77, () -> told.count(4));
    }

    private static void example() {
        CHECK.promise("promise 3");
        PartMaker maker = new PartMaker();
        maker.many(2);
        CHECK.due("example(-99, 99, 0, -999)", 0, () -> maker.example(-99, 99, 0, -999));
        CHECK.due("example(99, -99, 0, 999)", 1, () -> maker.example(99, -99, 0, 999));
        CHECK.refused("example(100, 0, 0, 0)", Check.ARGUMENT, () -> maker.example(100, 0, 0, 0));
        CHECK.refused("example(0, -100, 0, 0)", Check.ARGUMENT, () -> maker.example(0, -100, 0, 0));
        CHECK.refused("example(0, 0, 1, 0)", Check.ARGUMENT, () -> maker.example(0, 0, 1, 0));
        CHECK.refused("example(0, 0, 0, 1000)", Check.ARGUMENT, () -> maker.example(0, 0, 0, 1000));
        CHECK.refused("example(0, 0, 0, -1000)", Check.ARGUMENT, () -> maker.example(0, 0, 0, -1000));
        CHECK.refused("example(99, -99, 0, 5)", Check.STATE, () -> maker.example(99, -99, 0, 5));
        CHECK.refused("example(99, -99, 0, 1000)", Check.ARGUMENT, () -> maker.example(99, -99, 0, 1000));
        for (int e = 2; e < 12; e++) {
            int x = e;
            CHECK.due("example(" + e + ", 0, 0, 0)", e, () -> maker.example(x, 0, 0, 0));
        }
        CHECK.refused("example(50, 0, 0, 0), the 13th", Check.STATE, () -> maker.example(50, 0, 0, 0));
        CHECK.refused("example(50, 0, 9, 0), the 13th", Check.ARGUMENT, () -> maker.example(50, 0, 9, 0));
        CHECK.due("count(1)", 12, () -> maker.count(1));
    }

    private static void drop() {
        CHECK.promise("promise 4");
        PartMaker maker = Check.ofOne(1, 10, 2, 20, 3, 30);
        CHECK.refused("drop(3)", Check.ELEMENT, () -> maker.drop(3));
        CHECK.refused("drop(-1)", Check.ELEMENT, () -> maker.drop(-1));
        CHECK.due("drop(1)", 2, () -> maker.drop(1));
        CHECK.due("told(1, 0)", 3, () -> maker.told(1, 0));
        CHECK.due("told(1, 3)", 30, () -> maker.told(1, 3));
        CHECK.due("told(0, 3)", 10, () -> maker.told(0, 3));
        CHECK.due("example(2, 0, 0, 0), gone before", 2, () -> maker.example(2, 0, 0, 0));
        CHECK.due("drop(2)", 2, () -> maker.drop(2));
        CHECK.due("drop(0)", 1, () -> maker.drop(0));
        CHECK.due("drop(0), the last", 0, () -> maker.drop(0));
        for (int x = 0; x < 12; x++) {
            maker.example(x, 0, 0, x);
        }
        CHECK.due("drop(11) of 12", 11, () -> maker.drop(11));
        CHECK.due("drop(0) of 11", 10, () -> maker.drop(0));
        CHECK.due("told(9, 0)", 10, () -> maker.told(9, 0));
    }

    private static void part() {
        CHECK.promise("promise 5");
        PartMaker maker = new PartMaker();
        CHECK.is("part(0, true)", false, () -> maker.part(0, true));
        CHECK.is("part(0, false)", true, () -> maker.part(0, false));
        CHECK.is("part(0, false) again", false, () -> maker.part(0, false));
        CHECK.is("part(9, true)", true, () -> maker.part(9, true));
        CHECK.is("part(6, false)", false, () -> maker.part(6, false));
        CHECK.due("count(3)", 62 + 512, () -> maker.count(3));
        CHECK.refused("part(10, true)", Check.ARGUMENT, () -> maker.part(10, true) ? 1 : 0);
        CHECK.refused("part(-1, true)", Check.ARGUMENT, () -> maker.part(-1, true) ? 1 : 0);
    }

    private static void constant() {
        CHECK.promise("promise 6");
        PartMaker maker = new PartMaker();
        CHECK.is("constant(0)", false, () -> maker.constant(0));
        CHECK.is("constant(1)", false, () -> maker.constant(1));
        CHECK.is("constant(99)", true, () -> maker.constant(99));
        CHECK.is("constant(-99)", true, () -> maker.constant(-99));
        CHECK.is("constant(99) again", false, () -> maker.constant(99));
        CHECK.refused("constant(100)", Check.ARGUMENT, () -> maker.constant(100) ? 1 : 0);
        CHECK.refused("constant(-100)", Check.ARGUMENT, () -> maker.constant(-100) ? 1 : 0);
        for (int v = 2; v <= 7; v++) {
            maker.constant(v);
        }
        CHECK.due("count(2)", 10, () -> maker.count(2));
        CHECK.refused("constant(8), the ninth", Check.STATE, () -> maker.constant(8) ? 1 : 0);
        CHECK.refused("constant(100), full", Check.ARGUMENT, () -> maker.constant(100) ? 1 : 0);
        CHECK.is("constant(7), full, not new", false, () -> maker.constant(7));
        CHECK.is("constant(1), full, not new", false, () -> maker.constant(1));
    }

    private static void constants() {
        CHECK.promise("promise 7");
        PartMaker maker = Check.ofOne(2, 7, 5, 5, -3, 99, 1, 100, 2 - 50, -90);
        // 7, 5; (5 is there, 0); 99, (102 is none); (100 is none), 99 is there; -90, -42
        CHECK.due("constants()", 5, () -> maker.constants());
        int[] due = {-90, -42, 0, 1, 5, 7, 99};
        CHECK.due("count(2)", due.length, () -> maker.count(2));
        for (int k = 0; k < due.length; k++) {
            int asked = k;
            CHECK.due("constantAt(" + k + ")", due[k], () -> maker.constantAt(asked));
        }
        CHECK.due("constants() again", 0, () -> maker.constants());

        PartMaker full = Check.ofOne(1, 20, 2, 30, 3, 40, 4, 50, 5, 60);
        // 20 19, 30 28, 40 37, 50 46: that is all the room there is
        CHECK.due("constants() with less room", 8, () -> full.constants());
        CHECK.due("count(2)", 10, () -> full.count(2));
        CHECK.due("constantAt(9)", 50, () -> full.constantAt(9));

        PartMaker last = Check.ofOne(1, 20, 2, 20);
        for (int v = 2; v <= 8; v++) {
            last.constant(v);
        }
        CHECK.due("constants() with room for one", 1, () -> last.constants());
        CHECK.due("constantAt(9), WANTED ahead of WANTED less x", 20, () -> last.constantAt(9));
        CHECK.due("constants() without EXAMPLES", 0, () -> new PartMaker().constants());
    }

    private static void budget() {
        CHECK.promise("promise 8");
        PartMaker maker = new PartMaker();
        CHECK.due("budget(20000)", 5000, () -> maker.budget(20000));
        CHECK.due("budget(1)", 20000, () -> maker.budget(1));
        CHECK.refused("budget(0)", Check.ARGUMENT, () -> maker.budget(0));
        CHECK.refused("budget(20001)", Check.ARGUMENT, () -> maker.budget(20001));
        CHECK.due("count(4)", 1, () -> maker.count(4));
    }

    private static PartMaker solvedOne() {
        PartMaker maker = Check.ofOne(1, 1, 2, 2);
        maker.grow(false);
        maker.grow(false);
        maker.grow(true);
        maker.solve(0);
        maker.write(true, 0);
        return maker;
    }

    private static void isGone(String by, PartMaker maker) {
        for (int what = 0; what <= 5; what++) {
            int asked = what;
            CHECK.due("grown(false, " + what + ") behind " + by, 0, () -> maker.grown(false, asked));
            CHECK.due("grown(true, " + what + ") behind " + by, 0, () -> maker.grown(true, asked));
        }
        CHECK.due("count(6) behind " + by, 0, () -> maker.count(6));
        CHECK.due("count(5) behind " + by, 5, () -> maker.count(5));
        CHECK.due("octet(2) behind " + by, '<', () -> maker.octet(2));
        CHECK.refused("solved(0) behind " + by, Check.STATE, () -> maker.solved(0));
        CHECK.refused("kept(false, 0, 0) behind " + by, Check.ELEMENT, () -> maker.kept(false, 0, 0));
    }

    private static void allThatWasMadeGoes() {
        CHECK.promise("promises 2 to 7, all that was MADE goes");
        PartMaker byMany = solvedOne();
        byMany.many(1);
        isGone("many", byMany);
        PartMaker byExample = solvedOne();
        byExample.example(5, 0, 0, 5);
        isGone("example", byExample);
        PartMaker byDrop = solvedOne();
        byDrop.drop(1);
        isGone("drop", byDrop);
        PartMaker byPart = solvedOne();
        byPart.part(0, true);
        isGone("part that changes nothing", byPart);
        PartMaker byConstant = solvedOne();
        byConstant.constant(0);
        isGone("constant that changes nothing", byConstant);
        PartMaker byConstants = solvedOne();
        byConstants.constants();
        isGone("constants", byConstants);
        CHECK.due("grow(true), of nothing", 0, () -> byConstants.grow(true));
        CHECK.due("grown(true, 5)", 0, () -> byConstants.grown(true, 5));
        byConstants.grow(false);
        CHECK.due("grown(false, 0), numbers anew", 4, () -> byConstants.grown(false, 0));
        CHECK.due("kept(false, 1, 1), MERGED anew", 0, () -> byConstants.kept(false, 1, 1));

        PartMaker other = Check.ofOne(2, 2);
        other.grow(false);
        other.solve(0);
        CHECK.due("solved(5), x", 0, () -> other.solved(5));
        other.drop(0);
        other.example(2, 0, 0, 1);
        other.grow(false);
        other.solve(0);
        CHECK.due("solved(5), 1, as many are KEPT as before", 2, () -> other.solved(5));
    }

    private static void whatIsRefusedChangesNothing() {
        CHECK.promise("promises 2 to 8, what is refused changes nothing");
        PartMaker maker = solvedOne();
        CHECK.refused("many(4)", Check.ARGUMENT, () -> maker.many(4));
        CHECK.refused("example(1, 0, 0, 0)", Check.STATE, () -> maker.example(1, 0, 0, 0));
        CHECK.refused("example(1, 1, 0, 0)", Check.ARGUMENT, () -> maker.example(1, 1, 0, 0));
        CHECK.refused("drop(2)", Check.ELEMENT, () -> maker.drop(2));
        CHECK.refused("part(10, true)", Check.ARGUMENT, () -> maker.part(10, true) ? 1 : 0);
        CHECK.refused("constant(100)", Check.ARGUMENT, () -> maker.constant(100) ? 1 : 0);
        CHECK.refused("solve(4)", Check.ARGUMENT, () -> maker.solve(4));
        CHECK.refused("make(4)", Check.ARGUMENT, () -> maker.make(4));
        maker.budget(7);
        CHECK.due("count(6)", 1, () -> maker.count(6));
        CHECK.due("solved(5)", 0, () -> maker.solved(5));
        CHECK.due("grown(false, 0)", 5, () -> maker.grown(false, 0));
        CHECK.due("grown(true, 2)", 3, () -> maker.grown(true, 2));
    }

    /** MANY, EXAMPLES, CONSTANTS, PARTS, BUDGET, bytes WRITTEN, then the CONSTANTS, then all of the EXAMPLES. */
    private static void told(String behind, PartMaker maker, long... due) {
        CHECK.dueAll("count, behind " + behind, maker::count, Arrays.copyOf(due, 6));
        int at = 6;
        for (int k = 0; k < due[2]; k++) {
            int asked = k;
            CHECK.due("constantAt(" + k + "), behind " + behind, due[at++], () -> maker.constantAt(asked));
        }
        for (int e = 0; e < due[1]; e++) {
            for (int what = 0; what <= 3; what++) {
                int example = e;
                int asked = what;
                CHECK.due("told(" + e + ", " + what + "), behind " + behind, due[at++],
                        () -> maker.told(example, asked));
            }
        }
    }

    private static PartMaker toldAll() {
        PartMaker maker = Check.ofTwo(4, -2, 9, 5, 3, -7);
        Check.allowOnly(maker, 1, 9);
        maker.constant(-7);
        maker.budget(77);
        maker.grow(false);
        maker.write(false, 2);
        return maker;
    }

    private static void whatIsToldStays() {
        CHECK.promise("promises 2 to 9, 26 and 27: what a call does not tell stays");
        PartMaker maker = toldAll();
        told("all", maker, 2, 2, 3, 514, 77, 2, -7, 0, 1, 4, -2, 0, 9, 5, 3, 0, -7);
        maker.grow(false);
        told("grow", maker, 2, 2, 3, 514, 77, 2, -7, 0, 1, 4, -2, 0, 9, 5, 3, 0, -7);
        CHECK.due("solve(0)", 1, () -> maker.solve(0) < 0 ? 1 : 0);
        told("solve", maker, 2, 2, 3, 514, 77, 2, -7, 0, 1, 4, -2, 0, 9, 5, 3, 0, -7);
        maker.make(1);
        told("make", maker, 2, 2, 3, 514, 77, 2, -7, 0, 1, 4, -2, 0, 9, 5, 3, 0, -7);
        maker.example(6, 6, 0, 8);
        told("example", maker, 2, 3, 3, 514, 77, 2, -7, 0, 1, 4, -2, 0, 9, 5, 3, 0, -7, 6, 6, 0, 8);
        maker.drop(0);
        told("drop", maker, 2, 2, 3, 514, 77, 2, -7, 0, 1, 5, 3, 0, -7, 6, 6, 0, 8);
        maker.part(1, false);
        told("part", maker, 2, 2, 3, 512, 77, 2, -7, 0, 1, 5, 3, 0, -7, 6, 6, 0, 8);
        maker.constant(50);
        told("constant", maker, 2, 2, 4, 512, 77, 2, -7, 0, 1, 50, 5, 3, 0, -7, 6, 6, 0, 8);
        maker.constants();
        told("constants", maker, 2, 2, 7, 512, 77, 2, -12, -7, 0, 1, 2, 8, 50, 5, 3, 0, -7, 6, 6, 0, 8);
        maker.budget(20000);
        told("budget", maker, 2, 2, 7, 512, 20000, 2, -12, -7, 0, 1, 2, 8, 50, 5, 3, 0, -7, 6, 6, 0, 8);
        maker.many(3);
        told("many", maker, 3, 0, 7, 512, 20000, 2, -12, -7, 0, 1, 2, 8, 50);
    }

    private static void count() {
        CHECK.promise("promise 42");
        PartMaker maker = solvedOne();
        maker.budget(77);
        int[] due = {1, 2, 2, 63, 77, 5, 1};
        for (int what = 0; what < due.length; what++) {
            int asked = what;
            CHECK.due("count(" + what + ")", due[what], () -> maker.count(asked));
        }
        CHECK.due("count(7)", -1, () -> maker.count(7));
        CHECK.due("count(-1)", -1, () -> maker.count(-1));
    }

    private static void told() {
        CHECK.promise("promise 43");
        PartMaker maker = new PartMaker();
        maker.many(3);
        maker.example(1, 2, 3, 4);
        maker.example(-5, 6, -7, 888);
        int[] due = {-5, 6, -7, 888};
        for (int what = 0; what < due.length; what++) {
            int asked = what;
            CHECK.due("told(1, " + what + ")", due[what], () -> maker.told(1, asked));
        }
        CHECK.refused("told(1, 4)", Check.ELEMENT, () -> maker.told(1, 4));
        CHECK.refused("told(1, -1)", Check.ELEMENT, () -> maker.told(1, -1));
        CHECK.refused("told(2, 0)", Check.ELEMENT, () -> maker.told(2, 0));
        CHECK.refused("told(-1, 0)", Check.ELEMENT, () -> maker.told(-1, 0));
        CHECK.due("told(0, 1) of one INPUT", 0, () -> Check.ofOne(3, 4).told(0, 1));
    }

    private static void constantAt() {
        CHECK.promise("promise 44");
        PartMaker maker = new PartMaker();
        maker.constant(5);
        maker.constant(-2);
        maker.constant(-9);
        int[] due = {-9, -2, 0, 1, 5};
        for (int k = 0; k < due.length; k++) {
            int asked = k;
            CHECK.due("constantAt(" + k + ")", due[k], () -> maker.constantAt(asked));
        }
        CHECK.refused("constantAt(5)", Check.ELEMENT, () -> maker.constantAt(5));
        CHECK.refused("constantAt(-1)", Check.ELEMENT, () -> maker.constantAt(-1));
    }
}
