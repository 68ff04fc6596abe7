import java.util.regex.Matcher;
import java.util.regex.Pattern;

/**
 * The PARTS, what is WRITTEN, and promises 11 to 17 and 19 to 25: each sentence that names a limit has
 * a test here, at the last number that is in and at the first that is out.
 */
public final class KeptLimitsTest {
    private static final int MIN = Integer.MIN_VALUE;
    private static final int MAX = Integer.MAX_VALUE;
    private static final int[] NO_INPUTS = {100, -100, 1000, MIN, MAX};
    private static final String[] SIGNS = {"\\+", "(?<=[a-z0-9)])-", "\\*", "min\\(", "max\\(",
        "(?<![a-z0-9)])-\\(", "/", "%", "abs\\(", "sgn\\("};
    private static final Check CHECK = new Check();

    public static void main(String[] args) {
        dividedAndRest();
        lesserAndGreater();
        negativeSizeAndSign();
        timesGoesRound();
        sumsGoRound();
        keptNoneSuch();
        keptSizes();
        keptMerged();
        keptCovers();
        outputNoneSuch();
        outputOfTests();
        valueNoneSuch();
        valueInputs();
        valueInputsThatAreNotThere();
        writeNoneSuch();
        writtenNumbers();
        writtenForms();
        octetWithout();
        testOfNoneOf();
        testOfJust();
        joinsNoPart();
        joinsNoneSuch();
        joinsOfOne();
        joinsWhetherItMayBeUsed();
        joinsWithAll300();
        unlikeNoneSuch();
        unlikeBits();
        usesNoneSuch();
        usesHowOften();
        farAtMost();
        farOfEach();
        farNoneSuch();
        nearestOfSeveral();
        nearestWithout();
        writeMergedNone();
        writeMergedFirst();
        mergedApartNone();
        mergedApartEdges();
        mergedApartOfTwoAndThree();
        differsNoneSuch();
        differsEdges();
        differsOfTwoAndThree();
        CHECK.end();
    }

    /** x 0, 1, 2 comes to 1, 3, 5: 13 EXPRESSIONS of SIZES 1 to 3, 4 TESTS of SIZE 3. */
    private static PartMaker odd() {
        PartMaker maker = Check.ofOne(0, 1, 1, 3, 2, 5);
        Check.grow(maker, false, 3);
        Check.grow(maker, true, 1);
        return maker;
    }

    /** 12 EXAMPLES; x, 0, 1 and TESTS of them. */
    private static PartMaker twelve() {
        PartMaker maker = new PartMaker();
        for (int e = 0; e < 12; e++) {
            maker.example(e + 2, 0, 0, e < 6 ? 1 : e + 2);
        }
        maker.constant(5);
        Check.grow(maker, false, 1);
        Check.grow(maker, true, 1);
        return maker;
    }

    private static PartMaker full() {
        PartMaker maker = Check.ofTwelve(1, 0);
        Check.grow(maker, false, 5);
        Check.grow(maker, true, 2);
        return maker;
    }

    private static PartMaker withParts(int... parts) {
        PartMaker maker = Check.ofTwo(7, 3, 0, -8, 3, 0, 5, -4, 0, 9, 0, 0);
        Check.allowOnly(maker, parts);
        Check.grow(maker, false, 3);
        return maker;
    }

    private static void values(PartMaker maker, String text, int... told) {
        int k = Check.numberOf(maker, false, text);
        for (int i = 0; i + 2 < told.length; i += 3) {
            int x = told[i];
            int y = told[i + 1];
            CHECK.due(text + " of " + x + ", " + y, told[i + 2], () -> maker.value(false, k, x, y, 0));
        }
    }

    private static void dividedAndRest() {
        CHECK.promise("Terms, '6 / and 7 % as Java's (by 0: 0)'");
        PartMaker maker = withParts(6, 7);
        values(maker, "(x/y)", 7, 2, 3, -7, 2, -3, 7, -2, -3, -7, -2, 3, 7, 0, 0, -7, 0, 0, 0, 0, 0, 0, 5, 0, 99, 1, 99,
                99, -1, -99, 6, 7, 0);
        values(maker, "(x%y)", 7, 2, 1, -7, 2, -1, 7, -2, 1, -7, -2, -1, 7, 0, 0, -7, 0, 0, 0, 0, 0, 0, 5, 0, 99, 1, 0,
                6, 7, 6);
        int divided = Check.numberOf(maker, false, "(x/y)");
        CHECK.dueAll("output of (x/y)", e -> maker.output(false, divided, e), 2, -2, -1, 0);
        int rest = Check.numberOf(maker, false, "(x%y)");
        CHECK.dueAll("output of (x%y)", e -> maker.output(false, rest, e), 1, -2, 1, 0);
    }

    private static void lesserAndGreater() {
        CHECK.promise("Terms, '3 the lesser one, 4 the greater one'");
        PartMaker maker = withParts(3, 4);
        values(maker, "min(x,y)", 4, 5, 4, 5, 4, 4, 5, 5, 5, -1, 0, -1, 0, -1, -1, -99, 99, -99);
        values(maker, "max(x,y)", 4, 5, 5, 5, 4, 5, 5, 5, 5, -1, 0, 0, 0, -1, 0, -99, 99, 99);
    }

    private static void negativeSizeAndSign() {
        CHECK.promise("Terms, '5 negative (of one) ... 8 size (of one; Math.abs), 9 the sign (of one; -1, 0, 1)'");
        PartMaker maker = withParts(5, 8, 9);
        values(maker, "-(x)", 5, 0, -5, -5, 0, 5, 0, 0, 0, 99, 0, -99);
        values(maker, "abs(x)", 5, 0, 5, -5, 0, 5, 0, 0, 0, -99, 0, 99, -1, 0, 1);
        values(maker, "sgn(x)", 5, 0, 1, -5, 0, -1, 0, 0, 0, 1, 0, 1, -1, 0, -1, 99, 0, 1, -99, 0, -1);
    }

    private static void timesGoesRound() {
        CHECK.promise("Terms, 'All is done as ints that go round': *");
        PartMaker maker = Check.ofOne(73, 0, 74, 0, -74, 0, 99, 0, -99, 0);
        Check.allowOnly(maker, 2);
        Check.grow(maker, false, 9);
        int fifth = maker.grown(false, 0) - 1;
        CHECK.writes("x to the fifth", "(x*(x*(x*(x*x))))", maker, () -> maker.write(false, fifth));
        CHECK.dueAll("output", e -> maker.output(false, fifth, e), 2073071593, -2075960672, 2075960672, 919965907,
                -919965907);
        CHECK.due("value, 73", 2073071593, () -> maker.value(false, fifth, 73, 0, 0));
        CHECK.due("value, 74 goes round", -2075960672, () -> maker.value(false, fifth, 74, 0, 0));
        CHECK.due("value, -74 goes round", 2075960672, () -> maker.value(false, fifth, -74, 0, 0));
        CHECK.due("value, 64", 1 << 30, () -> maker.value(false, fifth, 64, 0, 0));
    }

    private static void sumsGoRound() {
        CHECK.promise("Terms, 'All is done as ints that go round': + and -, by joins");
        PartMaker maker = Check.ofOne(96, 0);
        Check.allowOnly(maker, 2);
        maker.constant(64);
        maker.constant(-64);
        maker.budget(20000);
        Check.grow(maker, false, 9);
        // of 2 to the 28th there are 6 in a * 64 to the fourth, -4 and 4 in 64 to the fifth
        int six = Check.numberWith(maker, 6 << 28);
        int four = Check.numberWith(maker, 4 << 28);
        int lessFour = Check.numberWith(maker, -4 << 28);
        int least = Math.min(six, Math.min(four, lessFour));
        CHECK.due("all three are KEPT", 1, () -> least >= 0 ? 1 : 0);
        CHECK.due("6 + 6, less 16", lessFour, () -> maker.joins(0, six, six));
        CHECK.due("-4 - 6, and 16", six, () -> maker.joins(1, lessFour, six));
        CHECK.due("6 - -6, less 16", lessFour, () -> maker.joins(1, six, maker.joins(5, six, 0)));
        CHECK.due("4 + 4", -1, () -> maker.joins(0, four, four));
        CHECK.due("4 + -4", Check.numberWith(maker, 0), () -> maker.joins(0, four, lessFour));
        CHECK.due("4 * 64", Check.numberWith(maker, 0), () -> maker.joins(2, four, Check.numberWith(maker, 64)));
        CHECK.due("-(4)", lessFour, () -> maker.joins(5, four, 0));
        CHECK.due("abs(-4)", four, () -> maker.joins(8, lessFour, 0));
        CHECK.due("sgn(6)", Check.numberWith(maker, 1), () -> maker.joins(9, six, 0));
    }

    private static void keptNoneSuch() {
        CHECK.promise("promise 11, 'there is none such, another what'");
        PartMaker maker = odd();
        CHECK.refused("kept(false, 0, 0) of none", Check.ELEMENT, () -> new PartMaker().kept(false, 0, 0));
        CHECK.refused("kept(true, 0, 0) of none", Check.ELEMENT, () -> new PartMaker().kept(true, 0, 0));
        for (int what = 0; what <= 2; what++) {
            int asked = what;
            CHECK.refusedAll("kept, EXPRESSION", Check.ELEMENT, k -> maker.kept(false, k, asked), 13, -1, 300, MIN,
                    MAX);
            CHECK.refusedAll("kept, TEST", Check.ELEMENT, k -> maker.kept(true, k, asked), 4, -1, 12, 150, MIN, MAX);
        }
        for (int k = 0; k <= 12; k += 12) {
            int asked = k;
            CHECK.refusedAll("kept(false, " + k + ")", Check.ELEMENT, what -> maker.kept(false, asked, what), 3, -1,
                    MIN, MAX);
        }
        CHECK.refusedAll("kept(true, 3)", Check.ELEMENT, what -> maker.kept(true, 3, what), 3, -1, MIN, MAX);
        PartMaker full = full();
        CHECK.refused("kept(false, 300, 0)", Check.ELEMENT, () -> full.kept(false, 300, 0));
        CHECK.refused("kept(true, 150, 0)", Check.ELEMENT, () -> full.kept(true, 150, 0));
    }

    private static void keptSizes() {
        CHECK.promise("promise 11, 'what 0 its SIZE'");
        PartMaker maker = odd();
        CHECK.dueAll("kept(false, k, 0)", k -> maker.kept(false, k, 0), 1, 1, 1, 2, 2, 3, 3, 3, 3, 3, 3, 3, 3);
        CHECK.dueAll("kept(true, k, 0)", k -> maker.kept(true, k, 0), 3, 3, 3, 3);
        PartMaker last = Check.ofOne(99, 0);
        Check.allowOnly(last, 2);
        Check.grow(last, false, 9);
        CHECK.dueAll("kept(false, k, 0)", k -> last.kept(false, k, 0), 1, 1, 1, 3, 5, 7, 9);
        PartMaker steps = GrowthTest.steps();
        Check.grow(steps, false, 1);
        Check.grow(steps, true, 5);
        CHECK.due("kept(true, 13, 0), the last", 7, () -> steps.kept(true, 13, 0));
        CHECK.due("kept(true, 9, 0)", 4, () -> steps.kept(true, 9, 0));
    }

    private static void keptMerged() {
        CHECK.promise("promise 11, '1 how many were MERGED with it'");
        for (boolean tests : new boolean[] {false, true}) {
            PartMaker maker = full();
            int sum = 0;
            for (int k = 0; k < maker.grown(tests, 0); k++) {
                sum += maker.kept(tests, k, 1);
            }
            int merged = sum;
            CHECK.due("together as many as grown(" + tests + ", 1)", merged, () -> maker.grown(tests, 1));
        }
        PartMaker maker = odd();
        CHECK.due("kept(false, 5, 1), none", 0, () -> maker.kept(false, 5, 1));
        CHECK.due("kept(false, 3, 1), one", 1, () -> maker.kept(false, 3, 1));
        CHECK.due("kept(true, 1, 1), none", 0, () -> maker.kept(true, 1, 1));
        CHECK.due("kept(true, 0, 1), one", 1, () -> maker.kept(true, 0, 1));
    }

    private static void keptCovers() {
        CHECK.promise("promise 11, '2 its COVER (of a TEST: EXAMPLES where it is 1), as bits'");
        PartMaker maker = twelve();
        CHECK.due("x", 0xFC0, () -> maker.kept(false, 0, 2));
        CHECK.due("0, none", 0, () -> maker.kept(false, 1, 2));
        CHECK.due("1", 0x3F, () -> maker.kept(false, 2, 2));
        CHECK.dueAll("TESTS x<5, 5<x, x=5", k -> maker.kept(true, k, 2), 7, 0xFF0, 8);
        PartMaker all = new PartMaker();
        for (int e = 0; e < 12; e++) {
            all.example(e, 0, 0, e);
        }
        Check.grow(all, false, 1);
        CHECK.due("x, all twelve", 4095, () -> all.kept(false, 0, 2));
    }

    private static void outputNoneSuch() {
        CHECK.promise("promise 12, 'there is none such'");
        PartMaker maker = twelve();
        CHECK.dueAll("output(false, 0)", e -> maker.output(false, 0, e), 2, 3, 4, 5, 6, 7, 8, 9, 10, 11, 12, 13);
        CHECK.refusedAll("output(false, 0)", Check.ELEMENT, e -> maker.output(false, 0, e), 12, -1, MIN, MAX);
        CHECK.refusedAll("output(true, 0)", Check.ELEMENT, e -> maker.output(true, 0, e), 12, -1, MIN, MAX);
        CHECK.refusedAll("output, EXPRESSION", Check.ELEMENT, k -> maker.output(false, k, 0), 4, -1, MIN, MAX);
        CHECK.refusedAll("output, TEST", Check.ELEMENT, k -> maker.output(true, k, 0), 3, -1, MIN, MAX);
        CHECK.due("output(false, 3, 11)", 5, () -> maker.output(false, 3, 11));
        PartMaker less = odd();
        CHECK.due("output(false, 12, 2)", 2, () -> less.output(false, 12, 2));
        CHECK.refused("output(false, 12, 3)", Check.ELEMENT, () -> less.output(false, 12, 3));
        CHECK.refused("output(true, 3, 3)", Check.ELEMENT, () -> less.output(true, 3, 3));
    }

    private static void outputOfTests() {
        CHECK.promise("Terms, OUTPUTS of 'a TEST: 1 or 0'");
        PartMaker maker = twelve();
        CHECK.dueAll("x<5", e -> maker.output(true, 0, e), 1, 1, 1, 0, 0, 0, 0, 0, 0, 0, 0, 0);
        CHECK.dueAll("5<x", e -> maker.output(true, 1, e), 0, 0, 0, 0, 1, 1, 1, 1, 1, 1, 1, 1);
        CHECK.dueAll("x=5", e -> maker.output(true, 2, e), 0, 0, 0, 1, 0, 0, 0, 0, 0, 0, 0, 0);
    }

    private static void valueNoneSuch() {
        CHECK.promise("promise 13, 'there is none such'");
        PartMaker maker = odd();
        CHECK.refusedAll("value, EXPRESSION", Check.ELEMENT, k -> maker.value(false, k, 0, 0, 0), 13, -1, MIN, MAX);
        CHECK.refusedAll("value, TEST", Check.ELEMENT, k -> maker.value(true, k, 0, 0, 0), 4, -1, 12, MIN, MAX);
        CHECK.refused("value of none", Check.ELEMENT, () -> new PartMaker().value(false, 0, 0, 0, 0));
        CHECK.due("value(false, 12, 5, 0, 0), max(x,1)", 5, () -> maker.value(false, 12, 5, 0, 0));
        CHECK.due("value(true, 3, 1, 0, 0), x=1", 1, () -> maker.value(true, 3, 1, 0, 0));
    }

    private static void valueInputs() {
        CHECK.promise("promise 13, 'INPUTS (-99 to 99)'");
        PartMaker maker = full();
        for (int v : new int[] {99, -99}) {
            CHECK.due("x " + v, v, () -> maker.value(false, 0, v, 0, 0));
            CHECK.due("y " + v, v, () -> maker.value(false, 1, 0, v, 0));
            CHECK.due("z " + v, v, () -> maker.value(false, 2, 0, 0, v));
        }
        for (boolean tests : new boolean[] {false, true}) {
            CHECK.refusedAll("x", Check.ARGUMENT, v -> maker.value(tests, 0, v, 0, 0), NO_INPUTS);
            CHECK.refusedAll("y", Check.ARGUMENT, v -> maker.value(tests, 0, 0, v, 0), NO_INPUTS);
            CHECK.refusedAll("z", Check.ARGUMENT, v -> maker.value(tests, 0, 0, 0, v), NO_INPUTS);
        }
    }

    private static void valueInputsThatAreNotThere() {
        CHECK.promise("promise 13, 'one that is not there must be 0'");
        PartMaker one = odd();
        PartMaker two = Check.ofTwo(1, 2, 3, 4, 6, 5);
        Check.grow(two, false, 1);
        Check.grow(two, true, 1);
        for (boolean tests : new boolean[] {false, true}) {
            CHECK.refusedAll("y of one", Check.ARGUMENT, v -> one.value(tests, 0, 0, v, 0), 1, -1, 99, -99, MIN, MAX);
            CHECK.refusedAll("z of one", Check.ARGUMENT, v -> one.value(tests, 0, 0, 0, v), 1, -1, 99, -99, MIN, MAX);
            CHECK.refusedAll("z of two", Check.ARGUMENT, v -> two.value(tests, 0, 0, 0, v), 1, -1, 99, -99, MIN, MAX);
        }
        CHECK.due("value(false, 0, 99, 0, 0)", 99, () -> one.value(false, 0, 99, 0, 0));
        CHECK.due("value(false, 1, 0, -99, 0)", -99, () -> two.value(false, 1, 0, -99, 0));
    }

    private static void writeNoneSuch() {
        CHECK.promise("promise 14, 'there is none such'");
        PartMaker maker = odd();
        CHECK.writes("write(true, 3)", "(x=1)", maker, () -> maker.write(true, 3));
        CHECK.refusedAll("write, EXPRESSION", Check.ELEMENT, k -> maker.write(false, k), 13, -1, MIN, MAX);
        CHECK.refusedAll("write, TEST", Check.ELEMENT, k -> maker.write(true, k), 4, -1, 12, MIN, MAX);
        CHECK.due("count(5), what is WRITTEN stays", 5, () -> maker.count(5));
        CHECK.due("octet(2)", '=', () -> maker.octet(2));
        CHECK.writes("write(false, 12)", "max(x,1)", maker, () -> maker.write(false, 12));
    }

    private static void writtenNumbers() {
        CHECK.promise("WRITTEN, 'numbers as they are (below 0 with - ahead, no brackets)'");
        PartMaker maker = Check.ofOne(50, 0);
        for (int v : new int[] {-99, -10, -9, -1, 9, 10, 11, 99}) {
            maker.constant(v);
        }
        maker.grow(false);
        String[] due = {"x", "-99", "-10", "-9", "-1", "0", "1", "9", "10", "11", "99"};
        for (int k = 0; k < due.length; k++) {
            int asked = k;
            CHECK.writes("write(false, " + k + ")", due[k], maker, () -> maker.write(false, asked));
        }
        PartMaker below = Check.ofOne(50, 0, 40, 1);
        below.constant(-7);
        Check.grow(below, false, 3);
        for (String text : new String[] {"-(-7)", "(x--7)", "(-7-x)", "(x*-7)", "min(x,-7)", "(-7+1)", "-(x)"}) {
            // min(x,-7) comes to -7
            boolean isKept = !text.equals("min(x,-7)");
            CHECK.due(text + " is KEPT", isKept ? 1 : 0, () -> Check.numberOf(below, false, text) >= 0 ? 1 : 0);
        }
        Check.grow(below, true, 1);
        CHECK.due("no TEST of -7 tells 50 from 40", 0, () -> below.grown(true, 0));
    }

    private static void writtenForms() {
        CHECK.promise("WRITTEN, of two, of one, TESTS, if; without blanks");
        PartMaker maker = withParts(0, 1, 2, 3, 4, 5, 6, 7, 8, 9);
        for (String text : new String[] {"(x+y)", "(x-y)", "(x*y)", "min(x,y)", "max(x,y)", "-(x)", "(x/y)", "(x%y)",
            "abs(x)", "sgn(x)"}) {
            CHECK.due(text + " is KEPT", 1, () -> Check.numberOf(maker, false, text) >= 0 ? 1 : 0);
        }
        PartMaker steps = GrowthTest.steps();
        Check.grow(steps, false, 1);
        Check.grow(steps, true, 5);
        for (String text : new String[] {"(x<-5)", "(-5<x)", "(x=0)", "!((x<0))", "((x<0)&(-5<x))"}) {
            CHECK.due(text + " is KEPT", 1, () -> Check.numberOf(steps, true, text) >= 0 ? 1 : 0);
        }
        steps.solve(2);
        CHECK.writes("writeSolved()", "[(x<0)?-5:[(x<1)?7:5]]", steps, () -> steps.writeSolved());
    }

    private static void octetWithout() {
        CHECK.promise("promise 15, 'Byte k of what was WRITTEN latest; NONE without'");
        PartMaker maker = odd();
        for (int k : new int[] {0, 1, -1, MIN, MAX}) {
            CHECK.due("octet(" + k + ") of nothing", -1, () -> maker.octet(k));
        }
        maker.write(false, 12);
        CHECK.dueAll("octet", maker::octet, 'm', 'a', 'x', '(', 'x', ',', '1', ')', -1, -1);
        for (int k : new int[] {-1, 8, 9, 1023, 1024, MIN, MAX}) {
            CHECK.due("octet(" + k + ")", -1, () -> maker.octet(k));
        }
        maker.write(true, 0);
        CHECK.dueAll("octet of a shorter one", maker::octet, '(', 'x', '<', '1', ')', -1, -1, -1);
    }

    private static void testOfNoneOf() {
        CHECK.promise("promise 16, 'the set has what there is none of'");
        PartMaker none = new PartMaker();
        CHECK.due("testOf(0) without EXAMPLES", -1, () -> none.testOf(0));
        CHECK.refusedAll("testOf without EXAMPLES", Check.ARGUMENT, none::testOf, 1, 2, -1, MIN, MAX);
        PartMaker three = odd();
        CHECK.refusedAll("testOf of three", Check.ARGUMENT, three::testOf, 8, 9, 15, -1, -8, 4096, MIN, MAX);
        PartMaker maker = twelve();
        CHECK.due("testOf(4095)", -1, () -> maker.testOf(4095));
        CHECK.refusedAll("testOf of twelve", Check.ARGUMENT, maker::testOf, 4096, 8191, 1 << 16, -1, MIN, MAX);
    }

    private static void testOfJust() {
        CHECK.promise("promise 16, 'The KEPT TEST that is 1 on just the EXAMPLES of a set; NONE'");
        PartMaker maker = odd();
        // x<1, 0<x, 1<x, x=1
        CHECK.dueAll("testOf", maker::testOf, -1, 0, 3, -1, 2, -1, 1, -1);
        PartMaker more = twelve();
        CHECK.due("testOf(7)", 0, () -> more.testOf(7));
        CHECK.due("testOf(0xFF0)", 1, () -> more.testOf(0xFF0));
        CHECK.due("testOf(8)", 2, () -> more.testOf(8));
        CHECK.due("testOf(3), a part", -1, () -> more.testOf(3));
        CHECK.due("testOf(15), and one", -1, () -> more.testOf(15));
        more.drop(11);
        CHECK.due("testOf(7), gone", -1, () -> more.testOf(7));
    }

    private static void joinsNoPart() {
        CHECK.promise("promise 17, 'there is no such PART'");
        PartMaker maker = odd();
        CHECK.refusedAll("joins", Check.ARGUMENT, p -> maker.joins(p, 0, 0), 10, -1, 11, 32, MIN, MAX);
        CHECK.refusedAll("joins of none", Check.ARGUMENT, p -> maker.joins(p, 99, -1), 10, -1);
        int[] due = {5, 1, 10, 0, 0, 3, -1, 1, 0, -1};
        for (int part = 0; part <= 9; part++) {
            int asked = part;
            int answer = part == 6 || part == 9 ? Check.numberOf(maker, false, "min(x,1)") : due[part];
            CHECK.due("joins(" + part + ", 0, 0)", answer, () -> maker.joins(asked, 0, 0));
        }
    }

    private static void joinsNoneSuch() {
        CHECK.promise("promise 17, 'there is none such'");
        PartMaker maker = odd();
        for (int part : new int[] {0, 1, 2, 3, 4, 6, 7}) {
            CHECK.refusedAll("joins " + part, Check.ELEMENT, k -> maker.joins(part, k, 0), 13, -1, MIN, MAX);
            CHECK.refusedAll("joins " + part, Check.ELEMENT, k -> maker.joins(part, 0, k), 13, -1, MIN, MAX);
        }
        for (int part : new int[] {5, 8, 9}) {
            CHECK.refusedAll("joins " + part, Check.ELEMENT, k -> maker.joins(part, k, 0), 13, -1, MIN, MAX);
        }
        CHECK.due("joins(3, 12, 12), the last", 12, () -> maker.joins(3, 12, 12));
        PartMaker none = Check.ofOne(1, 1);
        CHECK.refused("joins(0, 0, 0), nothing grown", Check.ELEMENT, () -> none.joins(0, 0, 0));
        CHECK.refused("joins(5, 0, 0), nothing grown", Check.ELEMENT, () -> none.joins(5, 0, 0));
    }

    private static void joinsOfOne() {
        CHECK.promise("promise 17, 'of a PART of one the second counts for nothing, and is not asked'");
        PartMaker maker = odd();
        for (int second : new int[] {0, 12, 13, 99, -1, MIN, MAX}) {
            CHECK.due("joins(5, 3, " + second + ")", 0, () -> maker.joins(5, 3, second));
            CHECK.due("joins(8, 3, " + second + ")", 0, () -> maker.joins(8, 3, second));
            CHECK.due("joins(9, 4, " + second + ")", 4, () -> maker.joins(9, 4, second));
        }
    }

    private static void joinsWhetherItMayBeUsed() {
        CHECK.promise("promise 17, 'the OUTPUTS of a PART (whether it may be used or not)'");
        PartMaker maker = Check.ofOne(2, 0, -3, 0);
        Check.allowNoPart(maker);
        maker.constant(4);
        maker.constant(-1);
        maker.grow(false);
        String facts = Facts.of(maker);
        // x, -1, 0, 1, 4
        CHECK.due("x - x", 2, () -> maker.joins(1, 0, 0));
        CHECK.due("-(1)", 1, () -> maker.joins(5, 3, 0));
        CHECK.due("4 / 4", 3, () -> maker.joins(6, 4, 4));
        CHECK.due("4 / 0", 2, () -> maker.joins(6, 4, 2));
        CHECK.due("x % 4", 0, () -> maker.joins(7, 0, 4));
        CHECK.due("x + x", -1, () -> maker.joins(0, 0, 0));
        CHECK.due("abs(-1)", 3, () -> maker.joins(8, 1, 0));
        CHECK.unchanged("nothing is MADE", facts, maker);
    }

    private static void joinsWithAll300() {
        CHECK.promise("promise 17, with 300 KEPT ones");
        PartMaker maker = full();
        CHECK.due("grown(false, 0)", 300, () -> maker.grown(false, 0));
        String facts = Facts.of(maker);
        for (int part = 0; part <= 2; part++) {
            for (int first = 0; first < 300; first += 23) {
                for (int second = 299; second >= 0; second -= 31) {
                    int joined = part;
                    int a = first;
                    int b = second;
                    CHECK.due("joins(" + part + ", " + a + ", " + b + ")", holder(maker, part, a, b),
                            () -> maker.joins(joined, a, b));
                }
            }
        }
        CHECK.unchanged("by joins", facts, maker);
    }

    /** The KEPT EXPRESSION with the OUTPUTS of +, - or * of two, looked for from the front. */
    private static int holder(PartMaker maker, int part, int a, int b) {
        for (int k = 0; k < 300; k++) {
            boolean same = true;
            for (int e = 0; e < 12; e++) {
                int first = maker.output(false, a, e);
                int second = maker.output(false, b, e);
                int joined = part == 0 ? first + second : part == 1 ? first - second : first * second;
                same = same && maker.output(false, k, e) == joined;
            }
            if (same) {
                return k;
            }
        }
        return -1;
    }

    private static void unlikeNoneSuch() {
        CHECK.promise("promise 19, 'there is none such'");
        PartMaker maker = odd();
        CHECK.refusedAll("unlike, EXPRESSION", Check.ELEMENT, k -> maker.unlike(false, k, 0), 13, -1, MIN, MAX);
        CHECK.refusedAll("unlike, other", Check.ELEMENT, k -> maker.unlike(false, 0, k), 13, -1, MIN, MAX);
        CHECK.refusedAll("unlike, TEST", Check.ELEMENT, k -> maker.unlike(true, k, 0), 4, -1, 12, MIN, MAX);
        CHECK.refusedAll("unlike, other TEST", Check.ELEMENT, k -> maker.unlike(true, 0, k), 4, -1, 12, MIN, MAX);
        CHECK.due("unlike(false, 12, 12)", 0, () -> maker.unlike(false, 12, 12));
        CHECK.due("unlike(true, 3, 3)", 0, () -> maker.unlike(true, 3, 3));
    }

    private static void unlikeBits() {
        CHECK.promise("promise 19, 'as bits'");
        PartMaker maker = twelve();
        CHECK.due("0 and 1, all twelve", 4095, () -> maker.unlike(false, 1, 2));
        CHECK.due("x and 5, all but the fourth", 4095 - 8, () -> maker.unlike(false, 0, 3));
        CHECK.due("5 and x", 4095 - 8, () -> maker.unlike(false, 3, 0));
        CHECK.due("x<5 and 5<x", 4095 - 8, () -> maker.unlike(true, 0, 1));
        CHECK.due("x<5 and x=5", 15, () -> maker.unlike(true, 0, 2));
    }

    private static void usesNoneSuch() {
        CHECK.promise("promise 20, 'there is none such', 'there is no such PART'");
        PartMaker maker = odd();
        CHECK.refusedAll("uses, PART", Check.ARGUMENT, p -> maker.uses(false, 0, p), 10, -1, 16, 32, MIN, MAX);
        CHECK.refusedAll("uses, PART", Check.ARGUMENT, p -> maker.uses(true, 0, p), 10, -1, 16, 32, MIN, MAX);
        CHECK.refusedAll("uses, EXPRESSION", Check.ELEMENT, k -> maker.uses(false, k, 0), 13, -1, MIN, MAX);
        CHECK.refusedAll("uses, TEST", Check.ELEMENT, k -> maker.uses(true, k, 0), 4, -1, 12, MIN, MAX);
        CHECK.refused("uses, both", Check.ELEMENT, () -> maker.uses(false, 13, 10));
        CHECK.dueAll("uses of max(x,1)", p -> maker.uses(false, 12, p), 0, 0, 0, 0, 1, 0, 0, 0, 0, 0);
    }

    private static void usesHowOften() {
        CHECK.promise("promise 20, 'How often a PART stands in a KEPT one'");
        PartMaker all = withParts(0, 1, 2, 3, 4, 5, 6, 7, 8, 9);
        Check.grow(all, false, 2);
        Check.grow(all, true, 5);
        usesAsWritten(all, false);
        usesAsWritten(all, true);
        PartMaker deep = Check.ofOne(3, 1, -2, -2, 7, 5);
        Check.allowOnly(deep, 4, 5);
        deep.constant(4);
        deep.budget(20000);
        Check.grow(deep, false, 9);
        usesAsWritten(deep, false);
        PartMaker sums = Check.ofOne(99, 0);
        Check.allowOnly(sums, 0);
        Check.grow(sums, false, 9);
        usesAsWritten(sums, false);
        int last = sums.grown(false, 0) - 1;
        CHECK.due("uses of + of SIZE 9", 4, () -> sums.uses(false, last, 0));
    }

    private static void usesAsWritten(PartMaker maker, boolean tests) {
        for (int k = 0; k < maker.grown(tests, 0); k++) {
            int asked = k;
            maker.write(tests, k);
            String text = Check.written(maker);
            for (int part = 0; part <= 9; part++) {
                int due = 0;
                Matcher sign = Pattern.compile(SIGNS[part]).matcher(text);
                while (sign.find()) {
                    due++;
                }
                int of = part;
                CHECK.due("uses of " + part + " in " + text, due, () -> maker.uses(tests, asked, of));
            }
        }
    }

    /** One EXAMPLE; PART * alone; 50 and 8 come to 1,000,000 at SIZE 7. */
    private static PartMaker million(int x, int wanted) {
        PartMaker maker = Check.ofOne(x, wanted);
        Check.allowOnly(maker, 2);
        maker.constant(8);
        Check.grow(maker, false, 7);
        return maker;
    }

    private static void farAtMost() {
        CHECK.promise("promise 21, '1,000,000 of each at most (as longs)'");
        long[] due = {999_999, 1_000_000, 1_000_000, 999_001, 1_000_000};
        int[] wanted = {1, 0, -1, 999, -999};
        for (int i = 0; i < wanted.length; i++) {
            PartMaker above = million(50, wanted[i]);
            PartMaker below = million(-50, -wanted[i]);
            int k = Check.numberWith(above, 1_000_000);
            int less = Check.numberWith(below, -1_000_000);
            CHECK.due("far of 1,000,000 with " + wanted[i], due[i], () -> above.far(k));
            CHECK.due("far of -1,000,000 with " + -wanted[i], due[i], () -> below.far(less));
        }
        PartMaker round = Check.ofOne(74, 999, -74, -999);
        Check.allowOnly(round, 2);
        Check.grow(round, false, 9);
        int fifth = round.grown(false, 0) - 1;
        CHECK.due("far of what went round", 2_000_000, () -> round.far(fifth));
    }

    private static void farOfEach() {
        CHECK.promise("promise 21, 'of each EXAMPLE ... together'");
        PartMaker maker = new PartMaker();
        for (int e = 0; e < 12; e++) {
            maker.example(88 + e, 0, 0, e % 2 == 0 ? 999 : -999);
        }
        Check.allowOnly(maker, 2);
        Check.grow(maker, false, 9);
        // x, 0, 1, and the powers of x
        CHECK.due("far of 0", 12 * 999, () -> maker.far(1));
        CHECK.due("far of 1", 6 * 998 + 6 * 1000, () -> maker.far(2));
        CHECK.due("far of x to the fourth", 12_000_000, () -> maker.far(5));
        CHECK.due("far of x to the fifth", 12_000_000, () -> maker.far(6));
        PartMaker all = Check.ofOne(1, 1, 2, 2);
        all.grow(false);
        CHECK.due("far of x, not at all", 0, () -> all.far(0));
    }

    private static void farNoneSuch() {
        CHECK.promise("promise 21, 'there is none such'");
        PartMaker maker = odd();
        CHECK.refusedAll("far", Check.ELEMENT, maker::far, 13, -1, MIN, MAX);
        CHECK.due("far(12)", 5, () -> maker.far(12));
        CHECK.refused("far of none", Check.ELEMENT, () -> new PartMaker().far(0));
    }

    private static void nearestOfSeveral() {
        CHECK.promise("promise 22, 'of several the least number'");
        PartMaker first = Check.ofOne(5, 3);
        first.grow(false);
        CHECK.due("x and 1 are as far", 0, () -> first.nearest());
        PartMaker later = Check.ofOne(7, 3);
        later.constant(4);
        later.constant(2);
        later.grow(false);
        CHECK.due("2 and 4 are as far", 3, () -> later.nearest());
        PartMaker last = Check.ofOne(7, 9);
        last.constant(9);
        last.grow(false);
        CHECK.due("9 is the last", 3, () -> last.nearest());
        PartMaker zero = Check.ofOne(0, 0);
        zero.grow(false);
        CHECK.due("x", 0, () -> zero.nearest());
    }

    private static void nearestWithout() {
        CHECK.promise("promise 22, 'NONE without any'");
        CHECK.due("nearest() without EXAMPLES", -1, () -> new PartMaker().nearest());
        PartMaker maker = Check.ofOne(5, 3);
        CHECK.due("nearest(), nothing grown", -1, () -> maker.nearest());
        maker.grow(true);
        CHECK.due("nearest(), TESTS are none", -1, () -> maker.nearest());
        maker.grow(false);
        maker.drop(0);
        CHECK.due("nearest(), gone", -1, () -> maker.nearest());
    }

    private static void writeMergedNone() {
        CHECK.promise("promise 23, 'NONE: none was (what is WRITTEN stays)', 'there is none such'");
        PartMaker maker = odd();
        CHECK.due("writeMerged(false, 5), none, nothing WRITTEN", -1, () -> maker.writeMerged(false, 5));
        CHECK.due("count(5)", 0, () -> maker.count(5));
        maker.write(true, 3);
        CHECK.due("writeMerged(false, 5), none", -1, () -> maker.writeMerged(false, 5));
        CHECK.due("writeMerged(true, 1), none", -1, () -> maker.writeMerged(true, 1));
        CHECK.refusedAll("writeMerged, EXPRESSION", Check.ELEMENT, k -> maker.writeMerged(false, k), 13, -1, MIN, MAX);
        CHECK.refusedAll("writeMerged, TEST", Check.ELEMENT, k -> maker.writeMerged(true, k), 4, -1, 12, MIN, MAX);
        CHECK.due("count(5), it stays", 5, () -> maker.count(5));
        CHECK.dueAll("octet, it stays", maker::octet, '(', 'x', '=', '1', ')', -1);
    }

    private static void writeMergedFirst() {
        CHECK.promise("promise 23, 'The first that was MERGED with a KEPT one'");
        PartMaker maker = odd();
        CHECK.writes("writeMerged(false, 0)", "(x+0)", maker, () -> maker.writeMerged(false, 0));
        CHECK.writes("writeMerged(false, 3)", "(0-x)", maker, () -> maker.writeMerged(false, 3));
        CHECK.writes("writeMerged(true, 0)", "(x=0)", maker, () -> maker.writeMerged(true, 0));
        maker.grow(false);
        maker.grow(true);
        CHECK.writes("writeMerged(false, 0), as before", "(x+0)", maker, () -> maker.writeMerged(false, 0));
        CHECK.writes("writeMerged(true, 0), as before", "(x=0)", maker, () -> maker.writeMerged(true, 0));
        PartMaker alike = Check.ofTwo(5, 5, 0, 7, 7, 0);
        alike.grow(false);
        CHECK.writes("y is MERGED with x", "y", alike, () -> alike.writeMerged(false, 0));
        PartMaker one = Check.ofOne(-3, 0);
        one.constant(-3);
        one.grow(false);
        CHECK.writes("-3 is MERGED with x", "-3", one, () -> one.writeMerged(false, 0));
    }

    private static void mergedApartNone() {
        CHECK.promise("promise 24, 'there is none such, no such INPUT'; '-100: none was MERGED, or there are none'");
        PartMaker maker = odd();
        CHECK.refusedAll("mergedApart, k", Check.ELEMENT, k -> maker.mergedApart(false, k, 0), 13, -1, MIN, MAX);
        CHECK.refusedAll("mergedApart, TEST", Check.ELEMENT, k -> maker.mergedApart(true, k, 0), 4, -1, 12, MIN, MAX);
        CHECK.refusedAll("mergedApart, INPUT", Check.ELEMENT, i -> maker.mergedApart(false, 0, i), 3, -1, MIN, MAX);
        CHECK.refusedAll("mergedApart, none was", Check.ELEMENT, i -> maker.mergedApart(false, 5, i), 3, -1, MIN, MAX);
        CHECK.refusedAll("mergedApart, INPUT", Check.ELEMENT, i -> maker.mergedApart(true, 0, i), 3, -1, MIN, MAX);
        CHECK.dueAll("none was MERGED", i -> maker.mergedApart(false, 5, i), -100, -100, -100);
        CHECK.dueAll("x and (x+0) are ALIKE", i -> maker.mergedApart(false, 0, i), -100, -100, -100);
        CHECK.dueAll("none was MERGED with a TEST", i -> maker.mergedApart(true, 1, i), -100, -100, -100);
        CHECK.dueAll("x<1 and x=0", i -> maker.mergedApart(true, 0, i), -9, 0, 0);
    }

    /** One INPUT and two CONSTANTS: of EXAMPLES that these do not tell apart x‹a is KEPT, x‹b MERGED with it. */
    private static PartMaker lessThan(int a, int b, int below, int above) {
        PartMaker maker = Check.ofOne(below, 0, above, 0);
        Check.allowNoPart(maker);
        maker.constant(a);
        maker.constant(b);
        maker.grow(false);
        maker.grow(true);
        return maker;
    }

    private static void mergedApartEdges() {
        CHECK.promise("TELLS APART, 'each from -9 to 9', promise 24");
        // x<a and x<b are unlike from a to b - 1
        int[][] told = {{9, 10, 5, 10, 9}, {8, 10, 5, 10, 8}, {10, 11, 5, 20, -100}, {-9, -8, -20, 5, -9},
            {-10, -9, -20, 5, -100}, {-10, -8, -20, 5, -9}};
        for (int[] t : told) {
            PartMaker maker = lessThan(t[0], t[1], t[2], t[3]);
            int k = Check.numberOf(maker, true, "(x<" + t[0] + ")");
            CHECK.due("(x<" + t[0] + ") and (x<" + t[1] + ")", t[4], () -> maker.mergedApart(true, k, 0));
        }
        PartMaker maker = lessThan(9, 10, 5, 10);
        CHECK.writes("writeMerged", "(x<10)", maker, () -> maker.writeMerged(true, 0));
        CHECK.dueAll("INPUTS that are not there", i -> maker.mergedApart(true, 0, i), 9, 0, 0);
    }

    private static void mergedApartOfTwoAndThree() {
        CHECK.promise("TELLS APART, 'x, then y, then z ... those that are not there 0', promise 24");
        PartMaker two = Check.ofTwo(5, 5, 0, 7, 7, 0);
        two.grow(false);
        CHECK.dueAll("x and y", i -> two.mergedApart(false, 0, i), -9, -8, 0);
        PartMaker byX = Check.ofTwo(5, 1, 0, 10, 1, 0);
        Check.allowNoPart(byX);
        byX.constant(9);
        byX.constant(10);
        Check.grow(byX, false, 1);
        Check.grow(byX, true, 1);
        int ofX = Check.numberOf(byX, true, "(x<9)");
        CHECK.dueAll("x<9 and x<10", i -> byX.mergedApart(true, ofX, i), 9, -9, 0);
        PartMaker three = new PartMaker();
        three.many(3);
        three.example(5, 1, 5, 0);
        three.example(7, 2, 7, 0);
        three.grow(false);
        CHECK.dueAll("x and z", i -> three.mergedApart(false, 0, i), -9, -9, -8);
        PartMaker byZ = new PartMaker();
        byZ.many(3);
        byZ.example(1, 2, 5, 0);
        byZ.example(1, 2, 10, 0);
        Check.allowNoPart(byZ);
        byZ.constant(9);
        byZ.constant(10);
        Check.grow(byZ, false, 1);
        Check.grow(byZ, true, 1);
        int ofZ = Check.numberOf(byZ, true, "(z<9)");
        CHECK.dueAll("z<9 and z<10", i -> byZ.mergedApart(true, ofZ, i), -9, -9, 9);
    }

    private static void differsNoneSuch() {
        CHECK.promise("promise 25, 'there is none such'");
        PartMaker maker = odd();
        CHECK.refusedAll("differs, EXPRESSION", Check.ELEMENT, k -> maker.differs(false, k, 0), 13, -1, MIN, MAX);
        CHECK.refusedAll("differs, other", Check.ELEMENT, k -> maker.differs(false, 0, k), 13, -1, MIN, MAX);
        CHECK.refusedAll("differs, TEST", Check.ELEMENT, k -> maker.differs(true, k, 0), 4, -1, 12, MIN, MAX);
        CHECK.refusedAll("differs, other TEST", Check.ELEMENT, k -> maker.differs(true, 0, k), 4, -1, 12, MIN, MAX);
        CHECK.due("differs(false, 12, 12)", 0, () -> maker.differs(false, 12, 12));
    }

    private static void differsEdges() {
        CHECK.promise("promise 25, 'each from -9 to 9'");
        PartMaker maker = Check.ofOne(-11, 0, -10, 0, -9, 0, -8, 0, 5, 0, 8, 0, 9, 0, 10, 0, 11, 0);
        Check.allowNoPart(maker);
        for (int v : new int[] {-10, -9, -8, 9, 10, 11}) {
            maker.constant(v);
        }
        Check.grow(maker, false, 1);
        Check.grow(maker, true, 1);
        int[][] told = {{-10, -9, 0}, {-9, -8, 1}, {-10, -8, 1}, {9, 10, 1}, {10, 11, 0}, {9, 11, 1}, {-8, 9, 17},
            {-9, 10, 19}, {-10, 11, 19}};
        for (int[] t : told) {
            int a = Check.numberOf(maker, true, "(x<" + t[0] + ")");
            int b = Check.numberOf(maker, true, "(x<" + t[1] + ")");
            CHECK.due("(x<" + t[0] + ") and (x<" + t[1] + ")", t[2], () -> maker.differs(true, a, b));
            CHECK.due("the other way round", t[2], () -> maker.differs(true, b, a));
        }
    }

    private static void differsOfTwoAndThree() {
        CHECK.promise("promise 25, 'On how many INPUTS (x, y, z ...; those that are not there 0)'");
        PartMaker one = Check.ofOne(5, 0);
        one.grow(false);
        CHECK.due("0 and 1 of one INPUT", 19, () -> one.differs(false, 1, 2));
        CHECK.due("x and 0 of one INPUT", 18, () -> one.differs(false, 0, 1));
        PartMaker two = Check.ofTwo(5, 6, 0);
        two.grow(false);
        CHECK.due("0 and 1 of two INPUTS", 361, () -> two.differs(false, 2, 3));
        CHECK.due("x and y of two INPUTS", 342, () -> two.differs(false, 0, 1));
        PartMaker three = new PartMaker();
        three.many(3);
        three.example(5, 6, 7, 0);
        three.grow(false);
        CHECK.due("0 and 1 of three INPUTS", 6859, () -> three.differs(false, 3, 4));
        CHECK.due("x and z of three INPUTS", 6498, () -> three.differs(false, 0, 2));
        CHECK.due("x and x", 0, () -> three.differs(false, 0, 0));
    }
}
