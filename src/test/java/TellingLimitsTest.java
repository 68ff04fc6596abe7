/**
 * The Terms, promises 1 to 8 and 42 to 44: each sentence that names a limit has a test here, at the
 * last number that is in and at the first that is out.
 */
public final class TellingLimitsTest {
    private static final int MIN = Integer.MIN_VALUE;
    private static final int MAX = Integer.MAX_VALUE;
    private static final Check CHECK = new Check();

    public static void main(String[] args) {
        atMost512Calls();
        newObject();
        manyOneToThree();
        manyAllGo();
        inputsThatAreThere();
        inputsThatAreNotThere();
        wanted();
        twelveExamples();
        sameInputs();
        dropNoneSuch();
        dropMovesUp();
        partNoneSuch();
        partIsNew();
        constantNone();
        eightConstants();
        constantsStandInOrder();
        constantsOfWanted();
        constantsOfWantedLessX();
        constantsAsLongAsThereIsRoom();
        constantsOfEachExampleThatIsLeft();
        budgetNone();
        countAnother();
        toldNoneSuch();
        constantAtNoneSuch();
        CHECK.end();
    }

    /** Examples (0, 0, 0, 0), (1, 0, 0, 0) and so on. */
    private static PartMaker withExamples(int count) {
        PartMaker maker = new PartMaker();
        for (int x = 0; x < count; x++) {
            maker.example(x, 0, 0, 0);
        }
        return maker;
    }

    private static PartMaker withInputs(int many) {
        PartMaker maker = new PartMaker();
        maker.many(many);
        return maker;
    }

    private static void atMost512Calls() {
        CHECK.promise("'at most 512 calls'");
        PartMaker maker = Check.ofOne(0, 1, 1, 3, 2, 5);
        for (int call = 4; call < 512; call += 2) {
            CHECK.is("part(6, false), call " + call, false, () -> maker.part(6, false));
            CHECK.due("make(0), the call behind it", 5, () -> maker.make(0));
        }
        CHECK.due("writeSolved(), the 512th call", 9, () -> maker.writeSolved());
    }

    private static void newObject() {
        CHECK.promise("promise 1, 'One INPUT, no EXAMPLES, BUDGET 5,000'");
        CHECK.dueAll("count", new PartMaker()::count, 1, 0, 2, 63, 5000, 0, 0);
        CHECK.dueAll("constantAt", new PartMaker()::constantAt, 0, 1);
        CHECK.refused("example with y", Check.ARGUMENT, () -> new PartMaker().example(0, 1, 0, 0));
        CHECK.refused("drop(0)", Check.ELEMENT, () -> new PartMaker().drop(0));
        CHECK.due("budget(1)", 5000, () -> new PartMaker().budget(1));
        for (int what = 0; what <= 5; what++) {
            int asked = what;
            CHECK.due("grown(false, " + what + ")", 0, () -> new PartMaker().grown(false, asked));
            CHECK.due("grown(true, " + what + ")", 0, () -> new PartMaker().grown(true, asked));
        }
    }

    private static void manyOneToThree() {
        CHECK.promise("promise 2, '1 to 3'");
        PartMaker maker = new PartMaker();
        CHECK.refusedAll("many", Check.ARGUMENT, maker::many, 0, 4, -1, -3, 5, MIN, MAX);
        CHECK.due("count(0), as before", 1, () -> maker.count(0));
        for (int many = 1; many <= 3; many++) {
            int told = many;
            CHECK.due("many(" + many + ")", 0, () -> maker.many(told));
            CHECK.due("count(0)", many, () -> maker.count(0));
        }
    }

    private static void manyAllGo() {
        CHECK.promise("promise 2, 'how many EXAMPLES went (all go)'");
        CHECK.due("many(2) of none", 0, () -> new PartMaker().many(2));
        CHECK.due("many(1) of one", 1, () -> withExamples(1).many(1));
        PartMaker maker = withExamples(12);
        CHECK.refused("many(4)", Check.ARGUMENT, () -> maker.many(4));
        CHECK.due("count(1), as before", 12, () -> maker.count(1));
        CHECK.due("many(1) of twelve", 12, () -> maker.many(1));
        CHECK.due("count(1)", 0, () -> maker.count(1));
        CHECK.refused("told(0, 0)", Check.ELEMENT, () -> maker.told(0, 0));
        CHECK.due("many(1) again", 0, () -> maker.many(1));
        CHECK.due("example(0, 0, 0, 0), numbers anew", 0, () -> maker.example(0, 0, 0, 0));
    }

    private static void inputsThatAreThere() {
        CHECK.promise("promise 3, 'INPUTS x, y, z (-99 to 99)'");
        int[] none = {100, -100, 101, 1000, MIN, MAX};
        PartMaker maker = withInputs(3);
        CHECK.refusedAll("x", Check.ARGUMENT, x -> maker.example(x, 0, 0, 0), none);
        CHECK.refusedAll("y", Check.ARGUMENT, y -> maker.example(0, y, 0, 0), none);
        CHECK.refusedAll("z", Check.ARGUMENT, z -> maker.example(0, 0, z, 0), none);
        CHECK.due("count(1)", 0, () -> maker.count(1));
        int number = 0;
        for (int in : new int[] {99, -99}) {
            int asX = number;
            CHECK.due("x " + in, asX, () -> maker.example(in, 0, 0, 0));
            CHECK.due("y " + in, asX + 1, () -> maker.example(0, in, 0, 0));
            CHECK.due("z " + in, asX + 2, () -> maker.example(0, 0, in, 0));
            CHECK.due("told x", in, () -> maker.told(asX, 0));
            CHECK.due("told y", in, () -> maker.told(asX + 1, 1));
            CHECK.due("told z", in, () -> maker.told(asX + 2, 2));
            number += 3;
        }
    }

    private static void inputsThatAreNotThere() {
        CHECK.promise("promise 3, 'an INPUT that is not there must be 0'");
        int[] none = {1, -1, 99, -99, 100, MIN, MAX};
        PartMaker one = withInputs(1);
        CHECK.refusedAll("y of one INPUT", Check.ARGUMENT, y -> one.example(0, y, 0, 0), none);
        CHECK.refusedAll("z of one INPUT", Check.ARGUMENT, z -> one.example(0, 0, z, 0), none);
        CHECK.due("example(99, 0, 0, 0)", 0, () -> one.example(99, 0, 0, 0));
        PartMaker two = withInputs(2);
        CHECK.refusedAll("z of two INPUTS", Check.ARGUMENT, z -> two.example(0, 0, z, 0), none);
        CHECK.due("example(0, 99, 0, 0)", 0, () -> two.example(0, 99, 0, 0));
        CHECK.due("example(0, -99, 0, 0)", 1, () -> two.example(0, -99, 0, 0));
        CHECK.due("example(0, -1, 1, 0) of three INPUTS", 0, () -> withInputs(3).example(0, -1, 1, 0));
    }

    private static void wanted() {
        CHECK.promise("promise 3, 'what is WANTED (-999 to 999)'");
        PartMaker maker = new PartMaker();
        CHECK.refusedAll("WANTED", Check.ARGUMENT, w -> maker.example(0, 0, 0, w), 1000, -1000, MIN, MAX);
        CHECK.due("count(1)", 0, () -> maker.count(1));
        CHECK.due("WANTED 999", 0, () -> maker.example(0, 0, 0, 999));
        CHECK.due("WANTED -999", 1, () -> maker.example(1, 0, 0, -999));
        CHECK.due("told(0, 3)", 999, () -> maker.told(0, 3));
        CHECK.due("told(1, 3)", -999, () -> maker.told(1, 3));
    }

    private static void twelveExamples() {
        CHECK.promise("promise 3, '12 at most, numbered from 0 on as they came'");
        PartMaker maker = new PartMaker();
        for (int e = 0; e < 12; e++) {
            int x = 20 - e;
            CHECK.due("example " + e, e, () -> maker.example(x, 0, 0, x));
        }
        CHECK.refused("the 13th", Check.STATE, () -> maker.example(50, 0, 0, 0));
        CHECK.refused("the 13th, there already", Check.STATE, () -> maker.example(20, 0, 0, 20));
        CHECK.due("count(1)", 12, () -> maker.count(1));
        CHECK.due("told(11, 0)", 9, () -> maker.told(11, 0));
        CHECK.due("drop(0)", 11, () -> maker.drop(0));
        CHECK.due("example(50, 0, 0, 0), the 12th", 11, () -> maker.example(50, 0, 0, 0));
        CHECK.refused("example(51, 0, 0, 0), the 13th", Check.STATE, () -> maker.example(51, 0, 0, 0));
        CHECK.due("told(11, 0)", 50, () -> maker.told(11, 0));
    }

    private static void sameInputs() {
        CHECK.promise("promise 3, 'the same INPUTS are there already (whatever is WANTED)'");
        PartMaker maker = withInputs(3);
        maker.example(1, 2, 3, 4);
        maker.example(4, 5, 6, 7);
        CHECK.refused("the same", Check.STATE, () -> maker.example(1, 2, 3, 4));
        CHECK.refused("WANTED unlike", Check.STATE, () -> maker.example(1, 2, 3, 5));
        CHECK.refused("the same as the last", Check.STATE, () -> maker.example(4, 5, 6, 0));
        CHECK.due("x unlike", 2, () -> maker.example(0, 2, 3, 4));
        CHECK.due("y unlike", 3, () -> maker.example(1, 0, 3, 4));
        CHECK.due("z unlike", 4, () -> maker.example(1, 2, 0, 4));
        maker.drop(0);
        CHECK.due("gone before", 4, () -> maker.example(1, 2, 3, 5));
        maker.many(3);
        CHECK.due("all gone before", 0, () -> maker.example(1, 2, 3, 5));
    }

    private static void dropNoneSuch() {
        CHECK.promise("promise 4, 'there is none such'");
        CHECK.refusedAll("drop of none", Check.ELEMENT, new PartMaker()::drop, 0, -1, 1, MIN, MAX);
        PartMaker maker = withExamples(3);
        CHECK.refusedAll("drop of three", Check.ELEMENT, maker::drop, 3, -1, 4, 12, MIN, MAX);
        CHECK.due("count(1)", 3, () -> maker.count(1));
        PartMaker full = withExamples(12);
        CHECK.refusedAll("drop of twelve", Check.ELEMENT, full::drop, 12, -1);
        CHECK.due("drop(11)", 11, () -> full.drop(11));
        CHECK.refused("drop(11), gone", Check.ELEMENT, () -> full.drop(11));
    }

    private static void dropMovesUp() {
        CHECK.promise("promise 4, 'those behind it move up': how many are left");
        PartMaker maker = withInputs(3);
        for (int e = 0; e < 12; e++) {
            maker.example(e, -e, 2 * e, 10 * e);
        }
        CHECK.due("drop(0)", 11, () -> maker.drop(0));
        CHECK.due("drop(10)", 10, () -> maker.drop(10));
        CHECK.due("drop(4)", 9, () -> maker.drop(4));
        int[] left = {1, 2, 3, 4, 6, 7, 8, 9, 10};
        for (int e = 0; e < left.length; e++) {
            int asked = e;
            CHECK.due("told(" + e + ", 0)", left[e], () -> maker.told(asked, 0));
            CHECK.due("told(" + e + ", 1)", -left[e], () -> maker.told(asked, 1));
            CHECK.due("told(" + e + ", 2)", 2 * left[e], () -> maker.told(asked, 2));
            CHECK.due("told(" + e + ", 3)", 10 * left[e], () -> maker.told(asked, 3));
        }
        CHECK.refused("told(9, 0)", Check.ELEMENT, () -> maker.told(9, 0));
        for (int left1 = 8; left1 >= 0; left1--) {
            CHECK.due("drop(0) to the last", left1, () -> maker.drop(0));
        }
    }

    private static void partNoneSuch() {
        CHECK.promise("promise 5, 'a PART (0 to 9)'");
        PartMaker maker = new PartMaker();
        CHECK.refusedAll("part, may", Check.ARGUMENT, p -> maker.part(p, true) ? 1 : 0, 10, -1, 31, 32, MIN, MAX);
        CHECK.refusedAll("part, may not", Check.ARGUMENT, p -> maker.part(p, false) ? 1 : 0, 10, -1, 32, MIN, MAX);
        CHECK.due("count(3), as before", 63, () -> maker.count(3));
    }

    private static void partIsNew() {
        CHECK.promise("promise 5, 'whether that is new'; PARTS 'at first 0 to 5'");
        for (int part = 0; part <= 9; part++) {
            PartMaker maker = new PartMaker();
            int told = part;
            boolean atFirst = part <= 5;
            int without = 63 & ~(1 << part);
            CHECK.is("part(" + part + ", true) at first", !atFirst, () -> maker.part(told, true));
            CHECK.due("count(3)", without | 1 << part, () -> maker.count(3));
            CHECK.is("part(" + part + ", true) again", false, () -> maker.part(told, true));
            CHECK.is("part(" + part + ", false)", true, () -> maker.part(told, false));
            CHECK.due("count(3)", without, () -> maker.count(3));
            CHECK.is("part(" + part + ", false) again", false, () -> maker.part(told, false));
        }
        PartMaker all = new PartMaker();
        for (int part = 6; part <= 9; part++) {
            all.part(part, true);
        }
        CHECK.due("count(3), all", 1023, () -> all.count(3));
        Check.allowNoPart(all);
        CHECK.due("count(3), none", 0, () -> all.count(3));
    }

    private static void constantNone() {
        CHECK.promise("promise 6, CONSTANTS '-99 to 99'");
        PartMaker maker = new PartMaker();
        CHECK.refusedAll("constant", Check.ARGUMENT, v -> maker.constant(v) ? 1 : 0, 100, -100, 999, MIN, MAX);
        CHECK.due("count(2)", 2, () -> maker.count(2));
        CHECK.is("constant(99)", true, () -> maker.constant(99));
        CHECK.is("constant(-99)", true, () -> maker.constant(-99));
        CHECK.is("constant(-1)", true, () -> maker.constant(-1));
        CHECK.is("constant(2)", true, () -> maker.constant(2));
        CHECK.is("constant(0), always", false, () -> maker.constant(0));
        CHECK.is("constant(1), always", false, () -> maker.constant(1));
        CHECK.is("constant(99), not new", false, () -> maker.constant(99));
        CHECK.is("constant(-99), not new", false, () -> maker.constant(-99));
        CHECK.due("count(2)", 6, () -> maker.count(2));
    }

    private static void eightConstants() {
        CHECK.promise("promise 6, '8 besides 0 and 1, and it is new'");
        PartMaker maker = new PartMaker();
        for (int v = 2; v <= 8; v++) {
            maker.constant(v);
        }
        CHECK.is("constant(0), seven are there", false, () -> maker.constant(0));
        CHECK.is("constant(9), the eighth", true, () -> maker.constant(9));
        CHECK.refusedAll("the ninth", Check.STATE, v -> maker.constant(v) ? 1 : 0, 10, -1, 99, -99);
        CHECK.is("constant(9), full, not new", false, () -> maker.constant(9));
        CHECK.is("constant(2), full, not new", false, () -> maker.constant(2));
        CHECK.is("constant(0), full, not new", false, () -> maker.constant(0));
        CHECK.refusedAll("none, full", Check.ARGUMENT, v -> maker.constant(v) ? 1 : 0, 100, -100);
        CHECK.due("count(2)", 10, () -> maker.count(2));
        CHECK.dueAll("constantAt", maker::constantAt, 0, 1, 2, 3, 4, 5, 6, 7, 8, 9);
    }

    private static void constantsStandInOrder() {
        CHECK.promise("Terms, CONSTANTS 'stand in the order -99 to 99'");
        PartMaker maker = new PartMaker();
        for (int v : new int[] {50, -1, 99, 2, -99, 49, -98, 98}) {
            maker.constant(v);
        }
        CHECK.dueAll("constantAt", maker::constantAt, -99, -98, -1, 0, 1, 2, 49, 50, 98, 99);
        maker.example(7, 0, 0, 0);
        maker.many(2);
        CHECK.dueAll("constantAt, behind many", maker::constantAt, -99, -98, -1, 0, 1, 2, 49, 50, 98, 99);
    }

    private static void constantsOfWanted() {
        CHECK.promise("promise 7, 'what is WANTED (-99 to 99 alone)'");
        // WANTED less x is the same, as x is 0
        CHECK.due("WANTED 99", 1, () -> Check.ofOne(0, 99).constants());
        CHECK.due("WANTED 100", 0, () -> Check.ofOne(0, 100).constants());
        CHECK.due("WANTED -99", 1, () -> Check.ofOne(0, -99).constants());
        CHECK.due("WANTED -100", 0, () -> Check.ofOne(0, -100).constants());
        CHECK.due("WANTED 0, not new", 0, () -> Check.ofOne(0, 0).constants());
        CHECK.due("WANTED 1, not new", 0, () -> Check.ofOne(0, 1).constants());
        CHECK.due("WANTED 999", 0, () -> Check.ofOne(-99, 999).constants());
        CHECK.due("without EXAMPLES", 0, () -> new PartMaker().constants());
    }

    private static void constantsOfWantedLessX() {
        CHECK.promise("promise 7, 'WANTED less x (likewise)'");
        PartMaker above = Check.ofOne(60, 159, 61, 161);
        CHECK.due("WANTED less x 99 and 100", 1, () -> above.constants());
        CHECK.due("constantAt(2)", 99, () -> above.constantAt(2));
        PartMaker below = Check.ofOne(60, -39, 61, -39);
        CHECK.due("-39, WANTED less x -99 and -100", 2, () -> below.constants());
        CHECK.dueAll("constantAt", below::constantAt, -99, -39, 0, 1);
        PartMaker twice = Check.ofOne(4, 9, 7, 5, 5, 9);
        CHECK.due("9 and 5, -2 (5 is there), 4 (9 is there)", 4, () -> twice.constants());
        CHECK.dueAll("constantAt", twice::constantAt, -2, 0, 1, 4, 5, 9);
        PartMaker three = withInputs(3);
        three.example(1, 20, 30, 50);
        CHECK.due("50, 49; y and z count for nothing", 2, () -> three.constants());
        CHECK.dueAll("constantAt", three::constantAt, 0, 1, 49, 50);
    }

    private static void constantsAsLongAsThereIsRoom() {
        CHECK.promise("promise 7, 'EXAMPLE by EXAMPLE, WANTED first, those that are new, as long as there is room'");
        int[] told = {1, 20, 2, 30, 3, 40, 4, 50, 5, 60};
        int[] order = {20, 19, 30, 28, 40, 37, 50, 46};
        for (int room = 0; room <= 8; room++) {
            PartMaker maker = Check.ofOne(told);
            for (int v = 2; v < 10 - room; v++) {
                maker.constant(v);
            }
            CHECK.due("constants() with room for " + room, room, () -> maker.constants());
            CHECK.due("count(2)", 10, () -> maker.count(2));
            for (int k = 0; k < order.length; k++) {
                int v = order[k];
                if (k < room) {
                    CHECK.is("constant(" + v + "), came", false, () -> maker.constant(v));
                } else {
                    CHECK.refused("constant(" + v + "), did not come", Check.STATE, () -> maker.constant(v) ? 1 : 0);
                }
            }
        }
    }

    private static void constantsOfEachExampleThatIsLeft() {
        CHECK.promise("promise 7, 'EXAMPLE by EXAMPLE': the first and the last of them, none that is gone");
        PartMaker twelve = new PartMaker();
        for (int x = 0; x < 12; x++) {
            twelve.example(x, 0, 0, x == 0 ? 30 : x == 11 ? 50 : 1);
        }
        // 30; 1 less 1 to 10 is 0 to -9; 50, 39 have no room any more
        CHECK.due("constants() of twelve", 8, () -> twelve.constants());
        CHECK.dueAll("constantAt", twelve::constantAt, -7, -6, -5, -4, -3, -2, -1, 0, 1, 30);
        PartMaker gone = Check.ofOne(0, 30, 1, 1, 2, 50);
        CHECK.due("drop(2)", 2, () -> gone.drop(2));
        CHECK.due("constants(), 30 alone", 1, () -> gone.constants());
        CHECK.due("many(1)", 2, () -> gone.many(1));
        CHECK.due("constants(), all are gone", 0, () -> gone.constants());
        PartMaker last = Check.ofOne(0, 0, 1, 1, 2, 50);
        CHECK.due("constants(), 50 and 48 of the last", 2, () -> last.constants());
    }

    private static void budgetNone() {
        CHECK.promise("promise 8, '1 to 20,000'");
        PartMaker maker = new PartMaker();
        CHECK.refusedAll("budget", Check.ARGUMENT, maker::budget, 0, 20001, -1, -20000, MIN, MAX);
        CHECK.due("budget(1), what it was", 5000, () -> maker.budget(1));
        CHECK.due("budget(20000), what it was", 1, () -> maker.budget(20000));
        CHECK.refusedAll("budget", Check.ARGUMENT, maker::budget, 0, 20001);
        CHECK.due("count(4)", 20000, () -> maker.count(4));
        CHECK.due("budget(20000) again", 20000, () -> maker.budget(20000));
    }

    private static void countAnother() {
        CHECK.promise("promise 42, 'NONE for another what'");
        PartMaker maker = withExamples(12);
        maker.grow(false);
        maker.solve(0);
        maker.write(false, 0);
        CHECK.dueAll("count", maker::count, 1, 12, 2, 63, 5000, 1, 1, -1, -1);
        for (int what : new int[] {-1, -2, 7, 32, MIN, MAX}) {
            CHECK.due("count(" + what + ")", -1, () -> maker.count(what));
        }
    }

    private static void toldNoneSuch() {
        CHECK.promise("promise 43, 'there is none such, another what'");
        PartMaker maker = withInputs(3);
        CHECK.refused("told(0, 0) of none", Check.ELEMENT, () -> maker.told(0, 0));
        for (int e = 0; e < 12; e++) {
            maker.example(e, 2 * e, -e, 3 * e);
        }
        for (int e = 0; e < 12; e += 11) {
            int asked = e;
            CHECK.dueAll("told(" + e + ")", what -> maker.told(asked, what), e, 2 * e, -e, 3 * e);
            CHECK.refusedAll("told(" + e + ")", Check.ELEMENT, what -> maker.told(asked, what), 4, -1, MIN, MAX);
        }
        for (int what = 0; what <= 3; what++) {
            int asked = what;
            CHECK.refusedAll("told, what " + what, Check.ELEMENT, e -> maker.told(e, asked), 12, -1, MIN, MAX);
        }
        PartMaker one = withExamples(1);
        CHECK.dueAll("told(0), INPUTS that are not there", what -> one.told(0, what), 0, 0, 0, 0);
    }

    private static void constantAtNoneSuch() {
        CHECK.promise("promise 44, 'there is none such'");
        PartMaker maker = new PartMaker();
        CHECK.refusedAll("constantAt of two", Check.ELEMENT, maker::constantAt, 2, -1, 9, 10, MIN, MAX);
        for (int v = 2; v <= 9; v++) {
            maker.constant(-v);
        }
        CHECK.dueAll("constantAt", maker::constantAt, -9, -8, -7, -6, -5, -4, -3, -2, 0, 1);
        CHECK.refusedAll("constantAt of ten", Check.ELEMENT, maker::constantAt, 10, -1, MIN, MAX);
    }
}
