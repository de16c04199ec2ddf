/**
 * The range of each argument, promise by promise: at both ends the last input that is still allowed and the first
 * one that is not, and inputs far outside. What a refused call leaves behind is looked at in RefusedTest.
 */
public final class LimitsTest {
    private static final int MISSING = ResidualTrees.MISSING;
    private static final int NONE = ResidualTrees.NONE;
    private static final int ROWS = 5, COLUMNS = 3, TREES = 4;
    private static final int[] FAR = {MISSING, MISSING + 1, -1, 0, 1 << 16, Integer.MAX_VALUE - 1, Integer.MAX_VALUE};
    private static final long[] WILD = {0, 1, -1, 1L << 47, 1L << 48, 1L << 63, Long.MAX_VALUE, -1L << 48, 0xffffffffL};

    private interface Call {
        void on(ResidualTrees x, int argument);
    }

    public static void main(String[] args) {
        begin();
        rowsAndTargets();
        values();
        columns();
        cuts();
        edges();
        bins();
        shapes();
        rates();
        trainAndDrop();
        nodes();
        writing();
        everyInputOfSample();
        everyInputOfBest();
        everyInputOfByteAt();
        errorOfEveryBits();
        calls512();
        Check.end();
    }

    /** Column 0 is of numbers with two edges, 1 of kinds, 2 of numbers without edges. */
    private static ResidualTrees inUse() {
        ResidualTrees x = new ResidualTrees();
        x.begin(COLUMNS);
        for (int row = 0; row < ROWS; row++) {
            x.add(row * row);
            for (int c = 0; c < COLUMNS; c++) {
                x.put(row, c, row);
            }
        }
        x.cut(0, true, 3);
        x.kinds(1, true);
        x.train(TREES);
        return x;
    }

    /** Every call comes to an object of its own, so that one does not stand in the other's way. */
    private static void range(String what, int low, int high, Call call) {
        allowed(what, low, call);
        allowed(what, high, call);
        allowed(what, low + (high - low) / 2, call);
        refused(what, low - 1, call);
        refused(what, high + 1, call);
        for (int far : FAR) {
            if (far < low || far > high) {
                refused(what, far, call);
            }
        }
    }

    /** As range(), but that MISSING is allowed, too. */
    private static void rangeOrMissing(String what, int low, int high, Call call) {
        allowed(what, low, call);
        allowed(what, high, call);
        allowed(what, MISSING, call);
        refused(what, low - 1, call);
        refused(what, high + 1, call);
        refused(what, MISSING + 1, call);
        refused(what, Integer.MAX_VALUE, call);
    }

    private static void allowed(String what, int argument, Call call) {
        try {
            call.on(inUse(), argument);
        } catch (RuntimeException e) {
            Check.say(what + " of " + argument + " threw " + e + ", it is allowed");
        }
    }

    private static void refused(String what, int argument, Call call) {
        ResidualTrees x = inUse();
        Check.badArgument(what + " of " + argument, () -> call.on(x, argument));
    }

    private static void begin() {
        range("begin", 1, 6, (x, i) -> x.begin(i));
    }

    private static void rowsAndTargets() {
        range("add", -1000, 1000, (x, i) -> x.add(i));
        range("put, row", 0, ROWS - 1, (x, i) -> x.put(i, 0, 0));
        range("target, row", 0, ROWS - 1, (x, i) -> x.target(i, 0));
        range("target, value", -1000, 1000, (x, i) -> x.target(0, i));
        range("residual, row", 0, ROWS - 1, (x, i) -> x.residual(i, 0));
    }

    private static void values() {
        rangeOrMissing("put, value of numbers", -1000000, 1000000, (x, i) -> x.put(0, 0, i));
        rangeOrMissing("put, value of kinds", 0, 11, (x, i) -> x.put(0, 1, i));
        rangeOrMissing("ask, column of numbers", -1000000, 1000000, (x, i) -> x.ask(0, i));
        rangeOrMissing("ask, column of kinds", -1000000, 1000000, (x, i) -> x.ask(1, i));
    }

    private static void columns() {
        range("put, column", 0, COLUMNS - 1, (x, i) -> x.put(0, i, 0));
        range("kinds(c, true)", 0, COLUMNS - 1, (x, i) -> x.kinds(i, true));
        range("kinds(c, false)", 0, COLUMNS - 1, (x, i) -> x.kinds(i, false));
        range("cut, column", 0, COLUMNS - 1, (x, i) -> { if (i != 1) { x.cut(i, true, 2); } });
        range("edge, column", 0, 0, (x, i) -> x.edge(i, 0));
        range("bin, column", 0, COLUMNS - 1, (x, i) -> x.bin(i, 0));
        range("uses, column", 0, COLUMNS - 1, (x, i) -> x.uses(i));
        range("ask, column", 0, COLUMNS - 1, (x, i) -> x.ask(i, 0));
    }

    private static void cuts() {
        range("cut by count", 2, 12, (x, i) -> x.cut(0, true, i));
        range("cut by width", 2, 12, (x, i) -> x.cut(0, false, i));
        range("cut without values", 2, 12, (x, i) -> {
            x.begin(1);
            x.cut(0, true, i);
        });
        Check.badState("cut of kinds", () -> inUse().cut(1, true, 2));
        Check.badState("cut of kinds", () -> inUse().cut(1, false, 12));
    }

    private static void edges() {
        range("edge", 0, 1, (x, i) -> x.edge(0, i));
        Check.badArgument("edge of kinds", () -> inUse().edge(1, 0));
        Check.badArgument("edge where there is none", () -> inUse().edge(2, 0));
        range("edge of eleven", 0, 10, (x, i) -> {
            x.put(0, 0, -1000000);
            x.put(1, 0, 1000000);
            x.cut(0, false, 12);
            x.edge(0, i);
        });
    }

    private static void bins() {
        range("bin of numbers", -1000000, 1000000, (x, i) -> x.bin(0, i));
        range("bin without edges", -1000000, 1000000, (x, i) -> x.bin(2, i));
        range("bin of kinds", 0, 11, (x, i) -> x.bin(1, i));
    }

    private static void shapes() {
        range("shape, depth", 1, 4, (x, i) -> x.shape(i, 1, 0));
        range("shape, least", 1, 24, (x, i) -> x.shape(1, i, 0));
        range("shape, weight", 0, 20, (x, i) -> x.shape(1, 1, i));
        range("shape, depth beside the greatest others", 1, 4, (x, i) -> x.shape(i, 24, 20));
    }

    private static void rates() {
        for (int q = 1; q <= 16; q++) {
            int lower = q;
            range("rate(p, " + q + ")", 1, q, (x, i) -> x.rate(i, lower));
        }
        for (int p = 1; p <= 16; p++) {
            int upper = p;
            range("rate(" + p + ", q)", p, 16, (x, i) -> x.rate(upper, i));
        }
        for (int p : FAR) {
            if (p != 1) {
                Check.badArgument("rate(" + p + ", " + p + ")", () -> inUse().rate(p, p));
            }
        }
        Check.badArgument("rate(17, 17)", () -> inUse().rate(17, 17));
    }

    private static void trainAndDrop() {
        range("train", 1, 16, (x, i) -> {
            x.drop(0);
            x.train(i);
        });
        ResidualTrees x = inUse();
        Check.badState("train(13) behind 4 trees", () -> x.train(13));
        Check.same("train(12) behind 4 trees", x.train(12), 12);
        range("drop", 0, TREES, (y, i) -> y.drop(i));
        range("drop of none", 0, 0, (y, i) -> {
            y.begin(1);
            y.drop(i);
        });
        range("drop of 16", 0, 16, (y, i) -> {
            y.train(12);
            y.drop(i);
        });
    }

    private static void nodes() {
        int last = inUse().nodes(0) - 1;
        range("node, tree", 0, TREES - 1, (x, i) -> x.node(i, 0, 0));
        range("node, node", 0, last, (x, i) -> x.node(0, i, 0));
        range("node, what", 0, 7, (x, i) -> x.node(0, 0, i));
        range("node, what of a leaf", 0, 7, (x, i) -> x.node(0, last, i));
        range("count", 0, 4, (x, i) -> x.count(i));
        range("nodes", 0, TREES - 1, (x, i) -> x.nodes(i));
        range("tell, tree", 0, TREES - 1, (x, i) -> x.tell(i, 0));
        range("tell, node", 0, last, (x, i) -> x.tell(0, i));
    }

    private static void writing() {
        range("residual, trees", 0, TREES, (x, i) -> x.residual(0, i));
        range("predict", 0, TREES, (x, i) -> x.predict(i));
        range("error", 0, TREES, (x, i) -> x.error(-1, i));
        range("error of no row", 0, TREES, (x, i) -> x.error(0, i));
        range("residual without trees", 0, 0, (x, i) -> {
            x.drop(0);
            x.residual(0, i);
        });
        range("predict without rows", 0, 0, (x, i) -> {
            x.begin(1);
            x.predict(i);
        });
        range("error without rows", 0, 0, (x, i) -> {
            x.begin(1);
            x.error(-1, i);
        });
    }

    /** It has no exception: bits of rows and columns that there are not do not count. */
    private static void everyInputOfSample() {
        for (long rows : WILD) {
            for (int columns : FAR) {
                Check.same("sample(" + rows + ", " + columns + ") without rows", new ResidualTrees().sample(rows, columns),
                        0);
                Check.same("sample(" + rows + ", " + columns + ")", inUse().sample(rows, columns),
                        Long.bitCount(rows & (1 << ROWS) - 1));
                trainsByThoseThatThereAre(rows, columns);
            }
        }
    }

    private static void trainsByThoseThatThereAre(long rows, int columns) {
        ResidualTrees x = inUse();
        int sampled = x.sample(rows, columns);
        boolean can = sampled > 0 && (columns & (1 << COLUMNS) - 1) != 0;
        if (can) {
            Check.same("train behind it", x.train(1), 1);
            Check.same("rows of its root", x.node(TREES, 0, 5), sampled);
        } else {
            Check.badState("train behind sample(" + rows + ", " + columns + ")", () -> x.train(1));
        }
    }

    private static void everyInputOfBest() {
        for (long rows : WILD) {
            Check.same("best(" + rows + ") without rows", new ResidualTrees().best(rows), 0);
            boolean any = (rows & (1 << ROWS) - 1) != 0;
            ResidualTrees x = inUse();
            int best = x.best(rows);
            if (best < 0 || best > TREES || !any && best != 0) {
                Check.say("best(" + rows + ") answered " + best);
            }
            x.drop(0);
            Check.same("best(" + rows + ") without trees", x.best(rows), 0);
        }
    }

    private static void everyInputOfByteAt() {
        ResidualTrees x = inUse();
        for (int i : FAR) {
            Check.same("byteAt(" + i + ") of an empty out", x.byteAt(i), NONE);
        }
        x.target(4, -16);
        x.residual(4, 0);
        for (int i : FAR) {
            Check.same("byteAt(" + i + ") of -16", x.byteAt(i), i == 0 ? '-' : NONE);
        }
        Check.same("the last byte", x.byteAt(2), '6');
        Check.same("behind the last byte", x.byteAt(3), NONE);
    }

    private static void errorOfEveryBits() {
        for (long rows : WILD) {
            ResidualTrees x = inUse();
            long due = 0;
            for (int row = 0; row < ROWS; row++) {
                due += (rows >> row & 1) * row * row * row * row;
            }
            Check.written("error(" + rows + ", 0)", x, x.error(rows, 0), Long.toString(due));
            Check.same("without rows", new ResidualTrees().error(rows, 0), 1);
        }
    }

    /** "An object is used for at most 512 calls": the last of them is answered as the others are. */
    private static void calls512() {
        ResidualTrees x = new ResidualTrees();
        x.add(7);
        for (int call = 2; call <= 510; call++) {
            Check.same("target, call " + call, x.target(0, call), call == 2 ? 7 : call - 1);
        }
        Check.same("train, call 511", x.train(16), 16);
        Check.same("residual, call 512: 510 / 65536", x.residual(0, 16), "255/32768".length());
    }
}
