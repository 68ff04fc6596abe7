/** All that can be asked of a maker without a change, as one text. */
final class Facts {
    private final PartMaker maker;
    private final StringBuilder text = new StringBuilder();

    private Facts(PartMaker maker) {
        this.maker = maker;
    }

    static String of(PartMaker maker) {
        Facts facts = new Facts(maker);
        facts.addTold();
        facts.addGrown(false);
        facts.addGrown(true);
        facts.addSolved();
        return facts.text.toString();
    }

    private void add(String name, long answer) {
        text.append(' ').append(name).append('=').append(answer);
    }

    private void addTold() {
        for (int what = 0; what <= 6; what++) {
            add("count" + what, maker.count(what));
        }
        for (int e = 0; e < maker.count(1); e++) {
            for (int what = 0; what <= 3; what++) {
                add("told", maker.told(e, what));
            }
        }
        for (int k = 0; k < maker.count(2); k++) {
            add("constant", maker.constantAt(k));
        }
        for (int k = 0; k < maker.count(5); k++) {
            add("octet", maker.octet(k));
        }
    }

    private void addGrown(boolean tests) {
        for (int what = 0; what <= 5; what++) {
            add("grown" + what, maker.grown(tests, what));
        }
        for (int k = 0; k < maker.grown(tests, 0); k++) {
            for (int what = 0; what <= 2; what++) {
                add("kept" + what, maker.kept(tests, k, what));
            }
            for (int e = 0; e < maker.count(1); e++) {
                add("output", maker.output(tests, k, e));
            }
            add("merged", maker.mergedApart(tests, k, 0));
        }
    }

    private void addSolved() {
        if (maker.count(6) == 0) {
            return;
        }
        for (int what = 0; what <= 5; what++) {
            add("solved" + what, maker.solved(what));
        }
        for (int e = 0; e < maker.count(1); e++) {
            add("leaf", maker.leaf(e));
            add("idle", maker.isIdle(e) ? 1 : 0);
        }
        for (int x = -99; x <= 99; x++) {
            add("comes", maker.comes(x, 0, 0));
        }
    }
}
