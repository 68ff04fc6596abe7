/** Promises 11 to 17 and 19 to 25: what is asked of those that are KEPT. */
public final class KeptTest {
    private static final Check CHECK = new Check();

    public static void main(String[] args) {
        kept();
        output();
        value();
        wrapAround();
        write();
        octet();
        testOf();
        joins();
        unlike();
        uses();
        far();
        nearest();
        writeMerged();
        mergedApart();
        differs();
        CHECK.end();
    }

    /** x 0, 1, 2 comes to 1, 3, 5; EXPRESSIONS of SIZES 1 to 3, TESTS of SIZE 3. */
    private static PartMaker odd() {
        PartMaker maker = Check.ofOne(0, 1, 1, 3, 2, 5);
        maker.grow(false);
        maker.grow(false);
        maker.grow(false);
        maker.grow(true);
        return maker;
    }

    /** All PARTS, two INPUTS, EXPRESSIONS of SIZES 1 to 3: GrowthTest has them all. */
    private static PartMaker wide() {
        PartMaker maker = Check.ofTwo(7, 3, 0, -7, 2, 0, 5, -4, 0);
        for (int part = 6; part <= 9; part++) {
            maker.part(part, true);
        }
        maker.grow(false);
        maker.grow(false);
        maker.grow(false);
        return maker;
    }

    private static PartMaker stepsGrown() {
        PartMaker maker = GrowthTest.steps();
        maker.grow(false);
        maker.grow(true);
        return maker;
    }

    private static void kept() {
        CHECK.promise("promise 11");
        PartMaker maker = odd();
        CHECK.due("kept(false, 2, 0)", 1, () -> maker.kept(false, 2, 0));
        CHECK.due("kept(false, 4, 0)", 2, () -> maker.kept(false, 4, 0));
        CHECK.due("kept(false, 12, 0)", 3, () -> maker.kept(false, 12, 0));
        CHECK.due("kept(false, 1, 1)", 12, () -> maker.kept(false, 1, 1));
        CHECK.due("kept(false, 5, 1)", 0, () -> maker.kept(false, 5, 1));
        CHECK.due("kept(false, 6, 2), x+1", 1, () -> maker.kept(false, 6, 2));
        CHECK.due("kept(false, 0, 2), x", 0, () -> maker.kept(false, 0, 2));
        CHECK.due("kept(true, 1, 0)", 3, () -> maker.kept(true, 1, 0));
        CHECK.due("kept(true, 1, 2), 0‹x", 6, () -> maker.kept(true, 1, 2));
        CHECK.due("kept(true, 0, 1), x‹1 and x=0", 1, () -> maker.kept(true, 0, 1));
        CHECK.refused("kept(false, 13, 0)", Check.ELEMENT, () -> maker.kept(false, 13, 0));
        CHECK.refused("kept(false, -1, 0)", Check.ELEMENT, () -> maker.kept(false, -1, 0));
        CHECK.refused("kept(true, 4, 0)", Check.ELEMENT, () -> maker.kept(true, 4, 0));
        CHECK.refused("kept(false, 0, 3)", Check.ELEMENT, () -> maker.kept(false, 0, 3));
        CHECK.refused("kept(false, 0, -1)", Check.ELEMENT, () -> maker.kept(false, 0, -1));
        PartMaker steps = stepsGrown();
        int[] covers = {8, 17, 0, 0, 12, 2};
        for (int k = 0; k < covers.length; k++) {
            int asked = k;
            CHECK.due("kept(false, " + k + ", 2)", covers[k], () -> steps.kept(false, asked, 2));
        }
    }

    private static void output() {
        CHECK.promise("promise 12");
        PartMaker maker = odd();
        int[] due = {-1, 0, 1};
        for (int e = 0; e < due.length; e++) {
            int asked = e;
            CHECK.due("output(false, 8, " + e + ")", due[e], () -> maker.output(false, 8, asked));
            CHECK.due("output(true, 2, " + e + ")", e == 2 ? 1 : 0, () -> maker.output(true, 2, asked));
        }
        CHECK.refused("output(false, 8, 3)", Check.ELEMENT, () -> maker.output(false, 8, 3));
        CHECK.refused("output(false, 8, -1)", Check.ELEMENT, () -> maker.output(false, 8, -1));
        CHECK.refused("output(false, 13, 0)", Check.ELEMENT, () -> maker.output(false, 13, 0));
        CHECK.refused("output(true, 4, 0)", Check.ELEMENT, () -> maker.output(true, 4, 0));
    }

    private static void value() {
        CHECK.promise("promise 13");
        PartMaker maker = wide();
        CHECK.due("value(false, 0, 7, -9, 0), x", 7, () -> maker.value(false, 0, 7, -9, 0));
        CHECK.due("value(false, 1, 7, -9, 0), y", -9, () -> maker.value(false, 1, 7, -9, 0));
        CHECK.due("value(false, 3, 7, -9, 0), 1", 1, () -> maker.value(false, 3, 7, -9, 0));
        CHECK.due("value(false, 4, 7, -9, 0), -(x)", -7, () -> maker.value(false, 4, 7, -9, 0));
        CHECK.due("value(false, 8, 7, -9, 0), abs(y)", 9, () -> maker.value(false, 8, 7, -9, 0));
        CHECK.due("value(false, 10, 7, -9, 0), sgn(y)", -1, () -> maker.value(false, 10, 7, -9, 0));
        CHECK.due("value(false, 10, 7, 0, 0), sgn(y)", 0, () -> maker.value(false, 10, 7, 0, 0));
        CHECK.due("value(false, 10, 7, 99, 0), sgn(y)", 1, () -> maker.value(false, 10, 7, 99, 0));
        CHECK.due("value(false, 12, 7, -9, 0), x+y", -2, () -> maker.value(false, 12, 7, -9, 0));
        CHECK.due("value(false, 17, 7, -9, 0), x-y", 16, () -> maker.value(false, 17, 7, -9, 0));
        CHECK.due("value(false, 24, 7, -9, 0), x*y", -63, () -> maker.value(false, 24, 7, -9, 0));
        CHECK.due("value(false, 26, 7, -9, 0), min", -9, () -> maker.value(false, 26, 7, -9, 0));
        CHECK.due("value(false, 31, 7, -9, 0), max", 7, () -> maker.value(false, 31, 7, -9, 0));
        CHECK.due("value(false, 40, 99, -7, 0), x/y", -14, () -> maker.value(false, 40, 99, -7, 0));
        CHECK.due("value(false, 40, 99, 0, 0), by 0", 0, () -> maker.value(false, 40, 99, 0, 0));
        CHECK.refused("value(false, 0, 100, 0, 0)", Check.ARGUMENT, () -> maker.value(false, 0, 100, 0, 0));
        CHECK.refused("value(false, 0, 0, -100, 0)", Check.ARGUMENT, () -> maker.value(false, 0, 0, -100, 0));
        CHECK.refused("value(false, 0, 0, 0, 1)", Check.ARGUMENT, () -> maker.value(false, 0, 0, 0, 1));
        CHECK.refused("value(false, 41, 0, 0, 1)", Check.ELEMENT, () -> maker.value(false, 41, 0, 0, 1));
        PartMaker steps = stepsGrown();
        steps.grow(true);
        steps.grow(true);
        steps.grow(true);
        steps.grow(true);
        CHECK.due("value(true, 1, -1, 0, 0), x‹0", 1, () -> steps.value(true, 1, -1, 0, 0));
        CHECK.due("value(true, 1, 0, 0, 0), x‹0", 0, () -> steps.value(true, 1, 0, 0, 0));
        CHECK.due("value(true, 7, 5, 0, 0), x=5", 1, () -> steps.value(true, 7, 5, 0, 0));
        CHECK.due("value(true, 7, 6, 0, 0), x=5", 0, () -> steps.value(true, 7, 6, 0, 0));
        CHECK.due("value(true, 8, -1, 0, 0), not x‹0", 0, () -> steps.value(true, 8, -1, 0, 0));
        CHECK.due("value(true, 8, 99, 0, 0), not x‹0", 1, () -> steps.value(true, 8, 99, 0, 0));
        CHECK.due("value(true, 10, -4, 0, 0), x‹0 and -5‹x", 1, () -> steps.value(true, 10, -4, 0, 0));
        CHECK.due("value(true, 10, -5, 0, 0), x‹0 and -5‹x", 0, () -> steps.value(true, 10, -5, 0, 0));
        CHECK.due("value(true, 10, 0, 0, 0), x‹0 and -5‹x", 0, () -> steps.value(true, 10, 0, 0, 0));
        CHECK.refused("value(true, 14, 0, 0, 0)", Check.ELEMENT, () -> steps.value(true, 14, 0, 0, 0));
        CHECK.refused("value(true, 0, 0, 1, 0)", Check.ARGUMENT, () -> steps.value(true, 0, 0, 1, 0));
    }

    /** Only * may be used: x, 0, 1, and the powers of x at SIZES 3, 5, 7, 9. */
    private static PartMaker powers() {
        PartMaker maker = Check.ofOne(99, 0);
        Check.allowNoPart(maker);
        Check.allowPart(maker, 2);
        for (int size = 1; size <= 9; size++) {
            maker.grow(false);
        }
        return maker;
    }

    private static void wrapAround() {
        CHECK.promise("PARTS, ints that go round");
        PartMaker maker = powers();
        CHECK.due("grown(false, 0)", 7, () -> maker.grown(false, 0));
        CHECK.due("output(false, 5, 0)", 96059601, () -> maker.output(false, 5, 0));
        CHECK.due("output(false, 6, 0)", 919965907, () -> maker.output(false, 6, 0));
        CHECK.due("value(false, 6, -99, 0, 0)", -919965907, () -> maker.value(false, 6, -99, 0, 0));
        CHECK.writes("write(false, 6)", "(x*(x*(x*(x*x))))", maker, () -> maker.write(false, 6));
    }

    private static void write() {
        CHECK.promise("promise 14");
        PartMaker maker = wide();
        CHECK.writes("write(false, 0)", "x", maker, () -> maker.write(false, 0));
        CHECK.writes("write(false, 36)", "-(abs(x))", maker, () -> maker.write(false, 36));
        CHECK.refused("write(false, 41)", Check.ELEMENT, () -> maker.write(false, 41));
        CHECK.refused("write(true, 0)", Check.ELEMENT, () -> maker.write(true, 0));
        CHECK.due("count(5), as refused", 9, () -> maker.count(5));
        PartMaker three = new PartMaker();
        three.many(3);
        three.example(1, 2, 3, 0);
        three.example(2, 4, 7, 0);
        three.constant(-10);
        three.constant(99);
        three.grow(false);
        three.grow(true);
        CHECK.writes("write(false, 2)", "z", three, () -> three.write(false, 2));
        CHECK.writes("write(false, 3)", "-10", three, () -> three.write(false, 3));
        CHECK.writes("write(false, 6)", "99", three, () -> three.write(false, 6));
        CHECK.writes("write(true, 0)", "(1<x)", three, () -> three.write(true, 0));
        CHECK.writes("write(true, 1)", "(x=1)", three, () -> three.write(true, 1));
    }

    private static void octet() {
        CHECK.promise("promise 15");
        PartMaker maker = odd();
        CHECK.due("octet(0) of nothing", -1, () -> maker.octet(0));
        maker.write(true, 0);
        String due = "(x<1)";
        for (int k = 0; k < due.length(); k++) {
            int asked = k;
            CHECK.due("octet(" + k + ")", due.charAt(k), () -> maker.octet(asked));
        }
        CHECK.due("octet(5)", -1, () -> maker.octet(5));
        CHECK.due("octet(-1)", -1, () -> maker.octet(-1));
        CHECK.due("octet(2147483647)", -1, () -> maker.octet(Integer.MAX_VALUE));
        maker.write(false, 0);
        CHECK.due("octet(0), latest", 'x', () -> maker.octet(0));
        CHECK.due("octet(1), latest", -1, () -> maker.octet(1));
    }

    private static void testOf() {
        CHECK.promise("promise 16");
        PartMaker maker = stepsGrown();
        int[] sets = {16, 17, 19, 23, 15, 12, 2, 8};
        for (int k = 0; k < sets.length; k++) {
            int set = sets[k];
            CHECK.due("testOf(" + set + ")", k, () -> maker.testOf(set));
        }
        CHECK.due("testOf(14)", -1, () -> maker.testOf(14));
        CHECK.due("testOf(0)", -1, () -> maker.testOf(0));
        CHECK.due("testOf(31)", -1, () -> maker.testOf(31));
        CHECK.refused("testOf(32)", Check.ARGUMENT, () -> maker.testOf(32));
        CHECK.refused("testOf(-1)", Check.ARGUMENT, () -> maker.testOf(-1));
        maker.grow(true);
        CHECK.due("testOf(14), grown", 8, () -> maker.testOf(14));
        maker.constant(0);
        CHECK.due("testOf(12), gone", -1, () -> maker.testOf(12));
    }

    private static void joins() {
        CHECK.promise("promise 17");
        PartMaker maker = wide();
        CHECK.due("joins(0, 0, 1)", 12, () -> maker.joins(0, 0, 1));
        CHECK.due("joins(0, 1, 0), the other way round", 12, () -> maker.joins(0, 1, 0));
        CHECK.due("joins(1, 1, 0)", 19, () -> maker.joins(1, 1, 0));
        CHECK.due("joins(7, 0, 1), as sgn(x)", 9, () -> maker.joins(7, 0, 1));
        CHECK.due("joins(6, 0, 2), by 0", 2, () -> maker.joins(6, 0, 2));
        CHECK.due("joins(5, 36, 99)", 7, () -> maker.joins(5, 36, 99));
        CHECK.due("joins(8, 0, -5)", 7, () -> maker.joins(8, 0, -5));
        CHECK.due("joins(9, 4, 0)", 38, () -> maker.joins(9, 4, 0));
        CHECK.due("joins(2, 23, 23)", -1, () -> maker.joins(2, 23, 23));
        CHECK.refused("joins(10, 0, 0)", Check.ARGUMENT, () -> maker.joins(10, 0, 0));
        CHECK.refused("joins(-1, 99, 0)", Check.ARGUMENT, () -> maker.joins(-1, 99, 0));
        CHECK.refused("joins(0, 41, 0)", Check.ELEMENT, () -> maker.joins(0, 41, 0));
        CHECK.refused("joins(0, 0, 41)", Check.ELEMENT, () -> maker.joins(0, 0, 41));
        CHECK.refused("joins(5, -1, 0)", Check.ELEMENT, () -> maker.joins(5, -1, 0));
        PartMaker barred = odd();
        CHECK.due("joins(8, 3, 0), a PART that may not be used", 0, () -> barred.joins(8, 3, 0));
        CHECK.due("grown(false, 5), nothing is MADE", 41, () -> barred.grown(false, 5));
    }

    private static void unlike() {
        CHECK.promise("promise 19");
        PartMaker maker = odd();
        CHECK.due("unlike(false, 0, 5)", 6, () -> maker.unlike(false, 0, 5));
        CHECK.due("unlike(false, 11, 0)", 4, () -> maker.unlike(false, 11, 0));
        CHECK.due("unlike(false, 3, 3)", 0, () -> maker.unlike(false, 3, 3));
        CHECK.due("unlike(true, 0, 1)", 7, () -> maker.unlike(true, 0, 1));
        CHECK.due("unlike(true, 1, 2)", 2, () -> maker.unlike(true, 1, 2));
        CHECK.refused("unlike(false, 13, 0)", Check.ELEMENT, () -> maker.unlike(false, 13, 0));
        CHECK.refused("unlike(false, 0, 13)", Check.ELEMENT, () -> maker.unlike(false, 0, 13));
        CHECK.refused("unlike(true, 0, 4)", Check.ELEMENT, () -> maker.unlike(true, 0, 4));
    }

    private static void uses() {
        CHECK.promise("promise 20");
        PartMaker maker = powers();
        CHECK.due("uses(false, 6, 2)", 4, () -> maker.uses(false, 6, 2));
        CHECK.due("uses(false, 6, 0)", 0, () -> maker.uses(false, 6, 0));
        CHECK.due("uses(false, 0, 2)", 0, () -> maker.uses(false, 0, 2));
        PartMaker mixed = wide();
        CHECK.due("uses(false, 36, 5)", 1, () -> mixed.uses(false, 36, 5));
        CHECK.due("uses(false, 36, 8)", 1, () -> mixed.uses(false, 36, 8));
        CHECK.due("uses(false, 38, 9)", 1, () -> mixed.uses(false, 38, 9));
        CHECK.refused("uses(false, 36, 10)", Check.ARGUMENT, () -> mixed.uses(false, 36, 10));
        CHECK.refused("uses(false, 36, -1)", Check.ARGUMENT, () -> mixed.uses(false, 36, -1));
        CHECK.refused("uses(false, 41, 10)", Check.ELEMENT, () -> mixed.uses(false, 41, 10));
        PartMaker late = Check.ofOne(0, 1, 1, 3, 2, 5);
        late.grow(true);
        late.grow(true);
        late.grow(false);
        late.grow(false);
        late.grow(true);
        CHECK.due("uses(true, 0, 5) of (-(x)‹-(1))", 2, () -> late.uses(true, 0, 5));
        late.grow(true);
        CHECK.due("uses(true, 3, 5) of not of it", 2, () -> late.uses(true, 3, 5));
        PartMaker negatives = Check.ofOne(1, 0);
        Check.allowNoPart(negatives);
        Check.allowPart(negatives, 9);
        Check.allowPart(negatives, 1);
        for (int size = 1; size <= 9; size++) {
            negatives.grow(false);
        }
        for (int k = 0; k < negatives.grown(false, 0); k++) {
            int asked = k;
            negatives.write(false, k);
            long due = Check.written(negatives).chars().filter(sign -> sign == '-').count();
            CHECK.due("uses(false, " + k + ", 1)", due, () -> negatives.uses(false, asked, 1));
        }
    }

    private static void far() {
        CHECK.promise("promise 21");
        PartMaker maker = odd();
        CHECK.due("far(0)", 6, () -> maker.far(0));
        CHECK.due("far(5)", 3, () -> maker.far(5));
        CHECK.due("far(3)", 12, () -> maker.far(3));
        CHECK.refused("far(13)", Check.ELEMENT, () -> maker.far(13));
        CHECK.refused("far(-1)", Check.ELEMENT, () -> maker.far(-1));
        PartMaker powers = powers();
        CHECK.due("far(3)", 9801, () -> powers.far(3));
        CHECK.due("far(4)", 970299, () -> powers.far(4));
        CHECK.due("far(5), at most", 1000000, () -> powers.far(5));
        PartMaker wide = Check.ofOne(99, -999, 98, 999);
        Check.allowNoPart(wide);
        Check.allowPart(wide, 2);
        for (int size = 1; size <= 9; size++) {
            wide.grow(false);
        }
        CHECK.due("far(6), of each at most", 2000000, () -> wide.far(6));
        CHECK.due("far(3)", 9801 + 999 + 9604 - 999, () -> wide.far(3));
        // 98 to the fifth goes round twice
        CHECK.due("output(false, 6, 1)", 449273376, () -> wide.output(false, 6, 1));
    }

    private static void nearest() {
        CHECK.promise("promise 22");
        CHECK.due("nearest() without any", -1, () -> new PartMaker().nearest());
        PartMaker maker = Check.ofOne(0, 1, 1, 3, 2, 5);
        CHECK.due("nearest() of nothing grown", -1, () -> maker.nearest());
        maker.grow(false);
        CHECK.due("nearest() of x, 0, 1", 0, () -> maker.nearest());
        maker.grow(false);
        maker.grow(false);
        CHECK.due("nearest(), x+x ahead of x+1", 5, () -> maker.nearest());
        maker.make(0);
        CHECK.due("nearest(), SOLVED", 20, () -> maker.nearest());
    }

    private static void writeMerged() {
        CHECK.promise("promise 23");
        PartMaker maker = odd();
        CHECK.writes("writeMerged(false, 0)", "(x+0)", maker, () -> maker.writeMerged(false, 0));
        CHECK.writes("writeMerged(false, 1)", "-(0)", maker, () -> maker.writeMerged(false, 1));
        CHECK.writes("writeMerged(false, 2)", "(0+1)", maker, () -> maker.writeMerged(false, 2));
        CHECK.writes("writeMerged(false, 3)", "(0-x)", maker, () -> maker.writeMerged(false, 3));
        CHECK.writes("writeMerged(true, 0)", "(x=0)", maker, () -> maker.writeMerged(true, 0));
        CHECK.due("writeMerged(true, 1), none", -1, () -> maker.writeMerged(true, 1));
        CHECK.due("octet(2), as it was WRITTEN", '=', () -> maker.octet(2));
        CHECK.refused("writeMerged(false, 13)", Check.ELEMENT, () -> maker.writeMerged(false, 13));
        CHECK.refused("writeMerged(true, 4)", Check.ELEMENT, () -> maker.writeMerged(true, 4));
        maker.grow(true);
        CHECK.writes("writeMerged(true, 0), the first", "(x=0)", maker, () -> maker.writeMerged(true, 0));
        CHECK.writes("writeMerged(true, 1)", "(-(x)<x)", maker, () -> maker.writeMerged(true, 1));
        CHECK.due("mergedApart(true, 1, 0), 0‹x and -(x)‹x", -100, () -> maker.mergedApart(true, 1, 0));
    }

    private static void mergedApart() {
        CHECK.promise("promise 24");
        PartMaker maker = odd();
        CHECK.due("mergedApart(false, 0, 0), x and x+0", -100, () -> maker.mergedApart(false, 0, 0));
        CHECK.due("mergedApart(false, 5, 0), none", -100, () -> maker.mergedApart(false, 5, 0));
        CHECK.due("mergedApart(true, 0, 0), x‹1 and x=0", -9, () -> maker.mergedApart(true, 0, 0));
        CHECK.refused("mergedApart(false, 0, 3)", Check.ELEMENT, () -> maker.mergedApart(false, 0, 3));
        CHECK.refused("mergedApart(false, 0, -1)", Check.ELEMENT, () -> maker.mergedApart(false, 0, -1));
        CHECK.refused("mergedApart(false, 13, 0)", Check.ELEMENT, () -> maker.mergedApart(false, 13, 0));
        PartMaker steps = stepsGrown();
        CHECK.due("mergedApart(true, 5, 0), 0‹x and 1‹x", 1, () -> steps.mergedApart(true, 5, 0));
        CHECK.due("mergedApart(true, 5, 1)", 0, () -> steps.mergedApart(true, 5, 1));
        PartMaker two = Check.ofTwo(3, 5, 0, 4, 8, 0);
        Check.allowNoPart(two);
        Check.allowPart(two, 1);
        two.constant(8);
        // (x<8) is IDLE
        two.grow(false);
        two.grow(true);
        CHECK.writes("write(true, 0)", "(y<8)", two, () -> two.write(true, 0));
        CHECK.due("mergedApart(true, 0, 0), none", -100, () -> two.mergedApart(true, 0, 0));
        PartMaker lesser = Check.ofTwo(2, 3, 0, -1, 5, 0);
        Check.allowNoPart(lesser);
        Check.allowPart(lesser, 7);
        lesser.grow(false);
        lesser.grow(false);
        lesser.grow(false);
        // 2%3, -1%5 come to x: the first MERGED with x
        CHECK.writes("writeMerged(false, 0)", "(x%y)", lesser, () -> lesser.writeMerged(false, 0));
        CHECK.due("mergedApart(false, 0, 0), -9 and -9%-9", -9, () -> lesser.mergedApart(false, 0, 0));
        CHECK.due("mergedApart(false, 0, 1)", -9, () -> lesser.mergedApart(false, 0, 1));
        CHECK.due("mergedApart(false, 0, 2)", 0, () -> lesser.mergedApart(false, 0, 2));
    }

    private static void differs() {
        CHECK.promise("promise 25");
        PartMaker maker = odd();
        CHECK.due("differs(false, 0, 5), x and x+x", 18, () -> maker.differs(false, 0, 5));
        CHECK.due("differs(false, 0, 11), x and min(x,1)", 8, () -> maker.differs(false, 0, 11));
        CHECK.due("differs(false, 7, 7)", 0, () -> maker.differs(false, 7, 7));
        CHECK.due("differs(true, 0, 1), x‹1 and 0‹x", 19, () -> maker.differs(true, 0, 1));
        CHECK.due("differs(true, 1, 2), 0‹x and 1‹x", 1, () -> maker.differs(true, 1, 2));
        PartMaker two = wide();
        CHECK.due("differs(false, 0, 1), x and y", 342, () -> two.differs(false, 0, 1));
        CHECK.due("differs(false, 0, 26), x and min(x,y)", 171, () -> two.differs(false, 0, 26));
        PartMaker three = new PartMaker();
        three.many(3);
        three.example(1, 2, 3, 0);
        three.grow(false);
        CHECK.due("differs(false, 1, 2), y and z", 6498, () -> three.differs(false, 1, 2));
        CHECK.refused("differs(false, 0, 13)", Check.ELEMENT, () -> maker.differs(false, 0, 13));
        CHECK.refused("differs(false, 13, 0)", Check.ELEMENT, () -> maker.differs(false, 13, 0));
        CHECK.refused("differs(true, 0, 4)", Check.ELEMENT, () -> maker.differs(true, 0, 4));
    }
}
