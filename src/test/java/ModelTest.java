import java.util.ArrayList;
import java.util.List;
import java.util.Random;

/**
 * All promises: PartMaker and Model are asked the same, in runs of calls drawn by fixed seeds;
 * each answer and each exception must be the same.
 */
public final class ModelTest {
    private static final int RUNS = 400;
    private static final int CALLS = 150;

    private final PartMaker maker = new PartMaker();
    private final Model model = new Model();
    private final Random random;
    private final int run;

    /** One run of four takes INPUTS, WANTED and CONSTANTS from all there are, and grows further. */
    private final boolean isWide;
    private final List<String> history = new ArrayList<>();

    private ModelTest(int run) {
        this.run = run;
        this.random = new Random(run);
        this.isWide = run % 4 == 3;
    }

    private interface Call {
        long ask();
    }

    public static void main(String[] args) {
        int wrong = 0;
        int most = args.length > 0 ? Integer.parseInt(args[0]) : RUNS;
        for (int run = 0; run < most && wrong < 5; run++) {
            if (!new ModelTest(run).isAlike()) {
                wrong++;
            }
        }
        System.out.println(wrong == 0 ? "all answers are the model's" : "answers are not the model's");
        if (wrong != 0) {
            System.exit(1);
        }
    }

    private boolean isAlike() {
        boolean alike = tellExamples();
        for (int turn = isWide ? from(5, 12) : from(0, 6); alike && turn > 0; turn--) {
            boolean tests = turn % 2 == 1;
            alike = same("grow(" + tests + ")", () -> maker.grow(tests), () -> model.grow(tests));
        }
        for (int c = 0; alike && c < CALLS; c++) {
            alike = askAny();
        }
        for (int what = -1; alike && what <= 7; what++) {
            alike = askCount(what);
        }
        return alike;
    }

    private static String outcome(Call call) {
        try {
            return "" + call.ask();
        } catch (RuntimeException e) {
            return "throws." + e.getClass().getSimpleName();
        }
    }

    private boolean same(String told, Call ofMaker, Call ofModel) {
        String due = outcome(ofModel);
        String got = outcome(ofMaker);
        history.add(told + " -> " + got);
        if (got.equals(due)) {
            return true;
        }
        System.out.println("run " + run + ": " + told + " answered " + got + ", due is " + due);
        int from = Math.max(0, history.size() - 40);
        System.out.println("  " + String.join("\n  ", history.subList(from, history.size())));
        return false;
    }

    private int from(int least, int most) {
        return least + random.nextInt(most - least + 1);
    }

    /** Mostly a number below a bound, now and then just outside. */
    private int below(int bound) {
        return random.nextInt(25) == 0 ? from(-1, 0) * (bound + 1) + bound : from(0, Math.max(0, bound - 1));
    }

    private int input(int number) {
        if (random.nextInt(40) == 0) {
            return from(-101, 101);
        }
        int most = isWide ? 99 : 9;
        return number < model.count(0) ? from(-most, most) : 0;
    }

    private int wantedFor(int kind, int x, int y, int z) {
        switch (kind) {
            case 0:
                return 2 * x + 1;
            case 1:
                return x < y ? y - x : x;
            case 2:
                return x == 0 ? 7 : Math.abs(x) + z;
            case 3:
                return Math.max(x, Math.max(y, z));
            case 4:
                return x > 3 ? 5 : x < -3 ? -5 : x;
            case 5:
                return x * x - y;
            case 6:
                return y == 0 ? 0 : x % y;
            default:
                return isWide ? from(-999, 999) : from(-3, 3);
        }
    }

    private boolean tellExamples() {
        int many = from(1, 3);
        boolean alike = same("many(" + many + ")", () -> maker.many(many), () -> model.many(many));
        int kind = from(0, 9);
        int size = from(1, isWide ? 13 : from(1, 12));
        for (int e = 0; alike && e < size; e++) {
            alike = tellExample(kind);
        }
        for (int p = 6; alike && p <= 9; p++) {
            alike = random.nextInt(3) != 0 || tellPart(p, true);
        }
        for (int p = 0; alike && p <= 5; p++) {
            alike = random.nextInt(3) != 0 || tellPart(p, false);
        }
        for (int c = from(0, isWide ? 9 : 3); alike && c > 0; c--) {
            alike = tellConstant();
        }
        return alike;
    }

    private boolean tellExample(int kind) {
        int x = input(0);
        int y = input(1);
        int z = input(2);
        int wanted = random.nextInt(60) == 0 ? from(-1002, 1002) : wantedFor(kind, x, y, z);
        return same("example(" + x + ", " + y + ", " + z + ", " + wanted + ")",
                () -> maker.example(x, y, z, wanted), () -> model.example(x, y, z, wanted));
    }

    private boolean tellPart(int part, boolean may) {
        return same("part(" + part + ", " + may + ")",
                () -> maker.part(part, may) ? 1 : 0, () -> model.part(part, may) ? 1 : 0);
    }

    private boolean tellConstant() {
        int v = isWide || random.nextInt(10) == 0 ? from(-101, 101) : from(-12, 12);
        return same("constant(" + v + ")", () -> maker.constant(v) ? 1 : 0, () -> model.constant(v) ? 1 : 0);
    }

    private boolean askCount(int what) {
        return same("count(" + what + ")", () -> maker.count(what), () -> model.count(what));
    }

    private boolean askAny() {
        int kind = random.nextInt(100);
        if (kind < 1) {
            return askTelling();
        }
        if (kind < 25) {
            return askGrowing();
        }
        if (kind < 60) {
            return askKept();
        }
        if (kind < 90) {
            return askSolved();
        }
        return askSets();
    }

    private boolean askTelling() {
        int n = from(0, 3);
        switch (from(0, 9)) {
            case 0:
                return random.nextInt(4) != 0
                        || same("many(" + n + ")", () -> maker.many(n), () -> model.many(n));
            case 1:
                int gone = below(model.count(1));
                return same("drop(" + gone + ")", () -> maker.drop(gone), () -> model.drop(gone));
            case 2:
                return tellPart(below(10), random.nextBoolean());
            case 3:
                return tellConstant();
            case 4:
                return same("constants()", () -> maker.constants(), () -> model.constants());
            default:
                return tellExample(from(0, 9));
        }
    }

    private boolean askGrowing() {
        boolean tests = random.nextBoolean();
        int ifs = random.nextInt(30) == 0 ? from(-1, 4) : from(0, 3);
        int what = below(6);
        switch (from(0, 6)) {
            case 0:
            case 1:
                return same("grow(" + tests + ")", () -> maker.grow(tests), () -> model.grow(tests));
            case 2:
                int n = random.nextInt(8) == 0 ? from(-1, 20001) : from(1, from(1, 6000));
                return same("budget(" + n + ")", () -> maker.budget(n), () -> model.budget(n));
            case 3:
                return random.nextInt(3) != 0
                        || same("make(" + ifs + ")", () -> maker.make(ifs), () -> model.make(ifs));
            case 4:
                return same("solve(" + ifs + ")", () -> maker.solve(ifs), () -> model.solve(ifs));
            default:
                return same("grown(" + tests + ", " + what + ")",
                        () -> maker.grown(tests, what), () -> model.grown(tests, what));
        }
    }

    private boolean askKept() {
        boolean tests = random.nextInt(3) == 0;
        String told = "(" + tests + ", ";
        int k = below(model.grown(tests, 0));
        int other = below(model.grown(tests, 0));
        int what = below(3);
        int example = below(model.count(1));
        int part = below(10);
        int size = from(-1, 10);
        int x = input(0);
        int y = input(1);
        int z = input(2);
        switch (from(0, 14)) {
            case 0:
                return same("kept" + told + k + ", " + what + ")",
                        () -> maker.kept(tests, k, what), () -> model.kept(tests, k, what));
            case 1:
                return same("output" + told + k + ", " + example + ")",
                        () -> maker.output(tests, k, example), () -> model.output(tests, k, example));
            case 2:
                return same("value" + told + k + ", " + x + ", " + y + ", " + z + ")",
                        () -> maker.value(tests, k, x, y, z), () -> model.value(tests, k, x, y, z));
            case 3:
                return same("write" + told + k + ")",
                        () -> maker.write(tests, k), () -> model.write(tests, k)) && sameText();
            case 4:
                return same("joins(" + part + ", " + k + ", " + other + ")",
                        () -> maker.joins(part, k, other), () -> model.joins(part, k, other));
            case 5:
                return same("ofSize" + told + size + ")",
                        () -> maker.ofSize(tests, size), () -> model.ofSize(tests, size));
            case 6:
                return same("unlike" + told + k + ", " + other + ")",
                        () -> maker.unlike(tests, k, other), () -> model.unlike(tests, k, other));
            case 7:
                return same("uses" + told + k + ", " + part + ")",
                        () -> maker.uses(tests, k, part), () -> model.uses(tests, k, part));
            case 8:
                return same("far(" + k + ")", () -> maker.far(k), () -> model.far(k));
            case 9:
                return same("nearest()", () -> maker.nearest(), () -> model.nearest());
            case 10:
                return same("writeMerged" + told + k + ")",
                        () -> maker.writeMerged(tests, k), () -> model.writeMerged(tests, k)) && sameText();
            case 11:
            case 12:
                return same("mergedApart" + told + k + ", " + what + ")",
                        () -> maker.mergedApart(tests, k, what), () -> model.mergedApart(tests, k, what));
            case 13:
                return same("differs" + told + k + ", " + other + ")",
                        () -> maker.differs(tests, k, other), () -> model.differs(tests, k, other));
            default:
                return same("octet(" + x + ")", () -> maker.octet(x), () -> model.octet(x));
        }
    }

    private boolean sameText() {
        boolean alike = true;
        for (int k = -1; alike && k <= model.count(5); k++) {
            int at = k;
            alike = same("octet(" + k + ")", () -> maker.octet(at), () -> model.octet(at));
        }
        return alike;
    }

    private boolean askSolved() {
        int k = below(model.grown(false, 0));
        int what = below(6);
        int number = below(3);
        int example = below(model.count(1));
        int part = below(10);
        int ifs = random.nextInt(30) == 0 ? from(-1, 4) : from(0, 3);
        int tied = model.count(1) > 7 ? Math.min(ifs, 1) : ifs;
        int x = input(0);
        int y = input(1);
        int z = input(2);
        switch (from(0, 11)) {
            case 0:
                return same("solved(" + what + ")", () -> maker.solved(what), () -> model.solved(what));
            case 1:
                return same("comes(" + x + ", " + y + ", " + z + ")",
                        () -> maker.comes(x, y, z), () -> model.comes(x, y, z));
            case 2:
                return same("writeSolved()", () -> maker.writeSolved(), () -> model.writeSolved()) && sameText();
            case 3:
                return same("leaf(" + example + ")", () -> maker.leaf(example), () -> model.leaf(example));
            case 4:
                return same("apart(" + k + ", " + number + ")",
                        () -> maker.apart(k, number), () -> model.apart(k, number));
            case 5:
                return same("without(" + part + ", " + ifs + ")",
                        () -> maker.without(part, ifs), () -> model.without(part, ifs));
            case 6:
                return same("ties(" + tied + ")", () -> maker.ties(tied), () -> model.ties(tied));
            case 7:
                return same("needed()", () -> maker.needed(), () -> model.needed());
            case 8:
                return same("solvedUses(" + part + ")",
                        () -> maker.solvedUses(part), () -> model.solvedUses(part));
            case 9:
                return same("way(" + x + ", " + y + ", " + z + ", " + number + ")",
                        () -> maker.way(x, y, z, number), () -> model.way(x, y, z, number));
            default:
                return same("isIdle(" + example + ")",
                        () -> maker.isIdle(example) ? 1 : 0, () -> model.isIdle(example) ? 1 : 0);
        }
    }

    private boolean askSets() {
        int all = (1 << model.count(1)) - 1;
        int set = random.nextInt(20) == 0 ? from(-1, 2 * all + 2) : random.nextInt(all + 1);
        int other = random.nextInt(10) == 0 ? random.nextInt(all + 2) : random.nextInt(all + 1) & ~set;
        int what = below(2);
        int example = below(model.count(1));
        int number = below(4);
        int k = below(model.count(2));
        switch (from(0, 6)) {
            case 0:
                return same("testOf(" + set + ")", () -> maker.testOf(set), () -> model.testOf(set));
            case 1:
                return same("fits(" + set + ", " + what + ")",
                        () -> maker.fits(set, what), () -> model.fits(set, what));
            case 2:
                return same("fewest()", () -> maker.fewest(), () -> model.fewest());
            case 3:
                return same("splits(" + set + ", " + other + ")",
                        () -> maker.splits(set, other), () -> model.splits(set, other));
            case 4:
                return same("told(" + example + ", " + number + ")",
                        () -> maker.told(example, number), () -> model.told(example, number));
            case 5:
                return same("constantAt(" + k + ")", () -> maker.constantAt(k), () -> model.constantAt(k));
            default:
                return askCount(from(-1, 7));
        }
    }
}
