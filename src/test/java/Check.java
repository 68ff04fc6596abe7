/** What the tests share: it prints each answer that is not the one due, and ends with exit code 1. */
final class Check {
    static final Class<IllegalArgumentException> ARGUMENT = IllegalArgumentException.class;
    static final Class<IllegalStateException> STATE = IllegalStateException.class;
    static final Class<java.util.NoSuchElementException> ELEMENT = java.util.NoSuchElementException.class;

    private int asked;
    private int wrong;
    private String promise = "";

    interface Call {
        long ask();
    }

    interface Answer {
        boolean ask();
    }

    /** A call with a number that is in, or is none. */
    interface CallOf {
        long ask(int number);
    }

    /** Names the promise that is tested from here on. */
    void promise(String name) {
        promise = name;
    }

    private static String outcome(Call call) {
        try {
            return "" + call.ask();
        } catch (RuntimeException e) {
            return "throws." + e.getClass().getSimpleName();
        }
    }

    private void same(String told, String got, String want) {
        asked++;
        if (!got.equals(want)) {
            wrong++;
            System.out.println(promise + ": " + told + " answered " + got + ", due is " + want);
        }
    }

    void due(String told, long want, Call call) {
        same(told, outcome(call), "" + want);
    }

    void is(String told, boolean want, Answer answer) {
        same(told, outcome(() -> answer.ask() ? 1 : 0), want ? "1" : "0");
    }

    void refused(String told, Class<? extends RuntimeException> by, Call call) {
        same(told, outcome(call), "throws." + by.getSimpleName());
    }

    /** Numbers that are none for a call, each of them. */
    void refusedAll(String told, Class<? extends RuntimeException> by, CallOf call, int... numbers) {
        for (int number : numbers) {
            refused(told + " with " + number, by, () -> call.ask(number));
        }
    }

    /** What a call answers with 0, 1 and so on. */
    void dueAll(String told, CallOf call, long... due) {
        for (int k = 0; k < due.length; k++) {
            int number = k;
            due(told + " with " + k, due[k], () -> call.ask(number));
        }
    }

    /** All that can be asked of a maker is as it was told before: only the first that is not is shown. */
    void unchanged(String told, String before, PartMaker maker) {
        String[] due = before.split(" ");
        String[] got = Facts.of(maker).split(" ");
        int k = 0;
        while (k < due.length && k < got.length && due[k].equals(got[k])) {
            k++;
        }
        same(told + ", fact " + k, k < got.length ? got[k] : "all", k < due.length ? due[k] : "all");
    }

    /** A call that WRITES: how many bytes it tells, and all bytes. */
    void writes(String told, String want, PartMaker maker, Call call) {
        due(told, want.length(), call);
        same(told + ", octets", written(maker), want);
    }

    static String written(PartMaker maker) {
        StringBuilder text = new StringBuilder();
        for (int k = 0; k < maker.count(5); k++) {
            text.append((char) maker.octet(k));
        }
        return text.toString();
    }

    /** A maker with one INPUT and EXAMPLES told as x and WANTED by turns. */
    static PartMaker ofOne(int... told) {
        PartMaker maker = new PartMaker();
        for (int i = 0; i + 1 < told.length; i += 2) {
            maker.example(told[i], 0, 0, told[i + 1]);
        }
        return maker;
    }

    /** A maker with two INPUTS and EXAMPLES told as x, y and WANTED by turns. */
    static PartMaker ofTwo(int... told) {
        PartMaker maker = new PartMaker();
        maker.many(2);
        for (int i = 0; i + 2 < told.length; i += 3) {
            maker.example(told[i], told[i + 1], 0, told[i + 2]);
        }
        return maker;
    }

    /** A maker with three INPUTS, the greatest BUDGET and 12 EXAMPLES: WANTED are so many times 0 to 11, less some. */
    static PartMaker ofTwelve(int times, int less) {
        PartMaker maker = new PartMaker();
        maker.many(3);
        for (int e = 0; e < 12; e++) {
            maker.example(e - 6, e * e % 11 - 4, e * 7 % 13 - 5, times * e - less);
        }
        maker.budget(20000);
        return maker;
    }

    /** The KEPT one that is WRITTEN so; -1 without. */
    static int numberOf(PartMaker maker, boolean tests, String text) {
        for (int k = 0; k < maker.grown(tests, 0); k++) {
            maker.write(tests, k);
            if (written(maker).equals(text)) {
                return k;
            }
        }
        return -1;
    }

    /** The KEPT EXPRESSION that comes to so much on the first EXAMPLE; -1 without. */
    static int numberWith(PartMaker maker, int output) {
        for (int k = 0; k < maker.grown(false, 0); k++) {
            if (maker.output(false, k, 0) == output) {
                return k;
            }
        }
        return -1;
    }

    static void allowOnly(PartMaker maker, int... parts) {
        allowNoPart(maker);
        for (int part : parts) {
            allowPart(maker, part);
        }
    }

    static void grow(PartMaker maker, boolean tests, int times) {
        for (int turn = 0; turn < times; turn++) {
            maker.grow(tests);
        }
    }

    static void allowNoPart(PartMaker maker) {
        for (int part = 0; part <= 9; part++) {
            maker.part(part, false);
        }
    }

    static void allowPart(PartMaker maker, int part) {
        maker.part(part, true);
    }

    void end() {
        System.out.println(wrong == 0 ? asked + " answers are as due"
                : wrong + " of " + asked + " answers are not as due");
        if (wrong != 0) {
            System.exit(1);
        }
    }
}
