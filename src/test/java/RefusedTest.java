/** "A call that throws changes nothing": of each refused call what it throws, and that all other calls answer as before. */
public final class RefusedTest {
    private static final int MISSING = ResidualTrees.MISSING;
    private static final int LOWEST = MISSING + 1, GREATEST = Integer.MAX_VALUE;

    private interface Maker {
        ResidualTrees make();
    }

    private interface Call {
        void on(ResidualTrees x);
    }

    private final String when;
    private final Maker maker;
    private final String[] before = new String[Look.PARTS];

    private RefusedTest(String when, Maker maker) {
        this.when = when;
        this.maker = maker;
        for (int part = 0; part < Look.PARTS; part++) {
            before[part] = Look.part(maker.make(), part);
        }
    }

    public static void main(String[] args) {
        RefusedTest worked = new RefusedTest("in use", RefusedTest::inUse);
        worked.tableCalls();
        worked.columnCalls();
        worked.planCalls();
        worked.treeCalls();
        worked.writingCalls();
        new RefusedTest("new", ResidualTrees::new).callsOnNothing();
        new RefusedTest("full table", RefusedTest::fullTable).callsOnFullTable();
        new RefusedTest("full forest", RefusedTest::fullForest).callsOnFullForest();
        new RefusedTest("no row in the sample", () -> sampled(0, -1)).trainIsRefused();
        new RefusedTest("only rows that are not there in the sample", () -> sampled(-1L << 8, -1)).trainIsRefused();
        new RefusedTest("no column in the choice", () -> sampled(-1, 0)).trainIsRefused();
        new RefusedTest("only columns that are not there in the choice", () -> sampled(-1, -1 << 4)).trainIsRefused();
        Check.end();
    }

    /** Four columns: of numbers with edges, of kinds, and two of numbers that could be kinds but for one value. */
    private static ResidualTrees inUse() {
        int[] targets = {0, 1, 10, 13, 40, 44, -7, 300};
        int[][] values = {{1, 2, 3, 4, 5, 6, MISSING, 40}, {0, 11, 0, 11, 3, 3, MISSING, 7},
            {12, 0, 1, 2, 3, 4, 5, 11}, {0, 1, 2, 3, 4, 5, -1, MISSING}};
        ResidualTrees x = new ResidualTrees();
        x.begin(4);
        for (int row = 0; row < targets.length; row++) {
            x.add(targets[row]);
            for (int c = 0; c < values.length; c++) {
                x.put(row, c, values[c][row]);
            }
        }
        x.cut(0, true, 4);
        x.kinds(1, true);
        x.cut(3, false, 12);
        x.ask(0, 3);
        x.ask(1, 500);
        x.shape(3, 2, 1);
        x.rate(2, 3);
        x.sample(0xbf, 3);
        x.train(2);
        x.residual(0, 2);
        return x;
    }

    private static ResidualTrees fullTable() {
        ResidualTrees x = new ResidualTrees();
        for (int row = 0; row < 48; row++) {
            x.add(row * 20 - 1000);
            x.put(row, 0, row);
        }
        x.cut(0, true, 12);
        x.train(2);
        x.residual(47, 2);
        return x;
    }

    private static ResidualTrees fullForest() {
        ResidualTrees x = new ResidualTrees();
        x.add(-5);
        x.add(20);
        x.put(0, 0, 1);
        x.put(1, 0, 2);
        x.cut(0, true, 2);
        x.rate(1, 1);
        x.train(1);
        x.rate(1, 3);
        x.train(15);
        x.predict(16);
        return x;
    }

    private static ResidualTrees sampled(long rows, int columns) {
        ResidualTrees x = inUse();
        x.sample(rows, columns);
        return x;
    }

    private void argument(String what, Call call) {
        refused(what, IllegalArgumentException.class, call);
    }

    private void state(String what, Call call) {
        refused(what, IllegalStateException.class, call);
    }

    private void refused(String what, Class<? extends RuntimeException> due, Call call) {
        String told = when + ": " + what;
        for (int part = 0; part < Look.PARTS; part++) {
            ResidualTrees x = maker.make();
            Check.refused(told, due, () -> call.on(x));
            String after = Look.part(x, part);
            if (!after.equals(before[part])) {
                Check.say(told + " was refused, but changed: " + difference(before[part], after));
            }
        }
    }

    private static String difference(String before, String after) {
        String[] was = before.split("\n");
        String[] is = after.split("\n");
        for (int i = 0; i < was.length && i < is.length; i++) {
            if (!was[i].equals(is[i])) {
                return "'" + was[i] + "' is '" + is[i] + "' now";
            }
        }
        return was.length + " answers are " + is.length + " now";
    }

    private void tableCalls() {
        for (int columns : new int[] {0, 7, -1, LOWEST, MISSING, GREATEST}) {
            argument("begin(" + columns + ")", x -> x.begin(columns));
        }
        for (int target : new int[] {1001, -1001, LOWEST, MISSING, GREATEST}) {
            argument("add(" + target + ")", x -> x.add(target));
            argument("target(0, " + target + ")", x -> x.target(0, target));
        }
        for (int row : new int[] {-1, 8, 47, 48, LOWEST, MISSING, GREATEST}) {
            argument("put(" + row + ", 0, 0)", x -> x.put(row, 0, 0));
            argument("target(" + row + ", 0)", x -> x.target(row, 0));
        }
        for (int value : new int[] {1000001, -1000001, LOWEST, GREATEST}) {
            argument("put(0, 0, " + value + ")", x -> x.put(0, 0, value));
            argument("put(7, 3, " + value + ")", x -> x.put(7, 3, value));
            argument("put(0, 1, " + value + ")", x -> x.put(0, 1, value));
        }
        for (int value : new int[] {12, -1, 32, 1000000, -1000000}) {
            argument("put(0, 1, " + value + ") of a kind", x -> x.put(0, 1, value));
            argument("put(6, 1, " + value + ") of a missing kind", x -> x.put(6, 1, value));
        }
        argument("put(8, 0, 1000001): no row and no value", x -> x.put(8, 0, 1000001));
    }

    private void columnCalls() {
        for (int c : new int[] {-1, 4, 5, 6, LOWEST, MISSING, GREATEST}) {
            argument("put(0, " + c + ", 0)", x -> x.put(0, c, 0));
            argument("kinds(" + c + ", true)", x -> x.kinds(c, true));
            argument("kinds(" + c + ", false)", x -> x.kinds(c, false));
            argument("cut(" + c + ", true, 2)", x -> x.cut(c, true, 2));
            argument("edge(" + c + ", 0)", x -> x.edge(c, 0));
            argument("bin(" + c + ", 0)", x -> x.bin(c, 0));
            argument("uses(" + c + ")", x -> x.uses(c));
            argument("ask(" + c + ", 0)", x -> x.ask(c, 0));
        }
        state("kinds(0, true) with edges and a 40", x -> x.kinds(0, true));
        state("kinds(2, true) with a 12", x -> x.kinds(2, true));
        state("kinds(3, true) with edges and a -1", x -> x.kinds(3, true));
        for (int n : new int[] {1, 13, 0, -2, LOWEST, MISSING, GREATEST}) {
            argument("cut(0, true, " + n + ")", x -> x.cut(0, true, n));
            argument("cut(0, false, " + n + ")", x -> x.cut(0, false, n));
            argument("cut(1, true, " + n + ") of kinds", x -> x.cut(1, true, n));
        }
        state("cut(1, true, 2) of kinds", x -> x.cut(1, true, 2));
        state("cut(1, false, 12) of kinds", x -> x.cut(1, false, 12));
        for (int i : new int[] {-1, 3, 11, LOWEST, MISSING, GREATEST}) {
            argument("edge(0, " + i + ")", x -> x.edge(0, i));
        }
        argument("edge(1, 0) of kinds", x -> x.edge(1, 0));
        argument("edge(2, 0) without edges", x -> x.edge(2, 0));
        for (int value : new int[] {1000001, -1000001, LOWEST, MISSING, GREATEST}) {
            argument("bin(0, " + value + ")", x -> x.bin(0, value));
            argument("bin(1, " + value + ")", x -> x.bin(1, value));
        }
        argument("bin(1, 12)", x -> x.bin(1, 12));
        argument("bin(1, -1)", x -> x.bin(1, -1));
        for (int value : new int[] {1000001, -1000001, LOWEST, GREATEST}) {
            argument("ask(0, " + value + ")", x -> x.ask(0, value));
            argument("ask(1, " + value + ")", x -> x.ask(1, value));
        }
    }

    /** The arguments that are fine are others than those of now, so that it shows if they are taken all the same. */
    private void planCalls() {
        for (int depth : new int[] {0, 5, -1, MISSING, GREATEST}) {
            argument("shape(" + depth + ", 1, 7)", x -> x.shape(depth, 1, 7));
        }
        for (int least : new int[] {0, 25, -1, MISSING, GREATEST}) {
            argument("shape(1, " + least + ", 7)", x -> x.shape(1, least, 7));
        }
        for (int weight : new int[] {-1, 21, MISSING, GREATEST}) {
            argument("shape(1, 4, " + weight + ")", x -> x.shape(1, 4, weight));
        }
        int[][] rates = {{0, 1}, {0, 5}, {-1, 5}, {2, 1}, {16, 15}, {17, 16}, {1, 17}, {16, 17}, {17, 17}, {1, 0}, {0, 0},
            {-1, -1}, {-2, -1}, {1, -1}, {MISSING, 16}, {MISSING, MISSING}, {GREATEST, 16}, {1, GREATEST},
            {GREATEST, GREATEST}, {1, MISSING}};
        for (int[] rate : rates) {
            argument("rate(" + rate[0] + ", " + rate[1] + ")", x -> x.rate(rate[0], rate[1]));
        }
        for (int rounds : new int[] {0, 17, -1, LOWEST, MISSING, GREATEST}) {
            argument("train(" + rounds + ")", x -> x.train(rounds));
        }
        state("train(15) behind two trees", x -> x.train(15));
        state("train(16) behind two trees", x -> x.train(16));
        for (int trees : new int[] {-1, 3, 16, 17, LOWEST, MISSING, GREATEST}) {
            argument("drop(" + trees + ")", x -> x.drop(trees));
        }
    }

    private void treeCalls() {
        for (int tree : new int[] {-1, 2, 15, 16, LOWEST, MISSING, GREATEST}) {
            argument("node(" + tree + ", 0, 0)", x -> x.node(tree, 0, 0));
            argument("nodes(" + tree + ")", x -> x.nodes(tree));
            argument("tell(" + tree + ", 0)", x -> x.tell(tree, 0));
        }
        int nodes = inUse().nodes(0);
        for (int node : new int[] {-1, nodes, 31, LOWEST, MISSING, GREATEST}) {
            argument("node(0, " + node + ", 0)", x -> x.node(0, node, 0));
            argument("tell(0, " + node + ")", x -> x.tell(0, node));
        }
        for (int what : new int[] {-1, 8, LOWEST, MISSING, GREATEST}) {
            argument("node(0, 0, " + what + ")", x -> x.node(0, 0, what));
            argument("node(1, 1, " + what + ")", x -> x.node(1, 1, what));
        }
        for (int what : new int[] {-1, 5, LOWEST, MISSING, GREATEST}) {
            argument("count(" + what + ")", x -> x.count(what));
        }
    }

    private void writingCalls() {
        for (int row : new int[] {-1, 8, 47, 48, LOWEST, MISSING, GREATEST}) {
            argument("residual(" + row + ", 0)", x -> x.residual(row, 0));
        }
        for (int trees : new int[] {-1, 3, 16, 17, LOWEST, MISSING, GREATEST}) {
            argument("residual(0, " + trees + ")", x -> x.residual(0, trees));
            argument("predict(" + trees + ")", x -> x.predict(trees));
            argument("error(-1, " + trees + ")", x -> x.error(-1, trees));
            argument("error(0, " + trees + ")", x -> x.error(0, trees));
        }
    }

    private void callsOnNothing() {
        argument("put(0, 0, 0)", x -> x.put(0, 0, 0));
        argument("target(0, 0)", x -> x.target(0, 0));
        argument("edge(0, 0)", x -> x.edge(0, 0));
        state("train(1)", x -> x.train(1));
        state("train(16)", x -> x.train(16));
        argument("train(0)", x -> x.train(0));
        argument("train(17)", x -> x.train(17));
        argument("drop(1)", x -> x.drop(1));
        argument("drop(-1)", x -> x.drop(-1));
        argument("node(0, 0, 0)", x -> x.node(0, 0, 0));
        argument("nodes(0)", x -> x.nodes(0));
        argument("tell(0, 0)", x -> x.tell(0, 0));
        argument("residual(0, 0)", x -> x.residual(0, 0));
        argument("predict(1)", x -> x.predict(1));
        argument("error(-1, 1)", x -> x.error(-1, 1));
        argument("uses(1)", x -> x.uses(1));
    }

    private void callsOnFullTable() {
        state("add(0)", x -> x.add(0));
        state("add(1000)", x -> x.add(1000));
        state("add(-1000)", x -> x.add(-1000));
        argument("add(1001)", x -> x.add(1001));
        argument("add(-1001)", x -> x.add(-1001));
        argument("put(48, 0, 0)", x -> x.put(48, 0, 0));
        argument("target(48, 0)", x -> x.target(48, 0));
        argument("residual(48, 0)", x -> x.residual(48, 0));
        argument("edge(0, 11)", x -> x.edge(0, 11));
        state("kinds(0, true)", x -> x.kinds(0, true));
    }

    private void callsOnFullForest() {
        state("train(1)", x -> x.train(1));
        state("train(16)", x -> x.train(16));
        argument("train(0)", x -> x.train(0));
        argument("train(17)", x -> x.train(17));
        argument("drop(17)", x -> x.drop(17));
        argument("node(16, 0, 0)", x -> x.node(16, 0, 0));
        argument("nodes(16)", x -> x.nodes(16));
        argument("tell(16, 0)", x -> x.tell(16, 0));
        argument("tell(0, 3)", x -> x.tell(0, 3));
        argument("tell(15, 1)", x -> x.tell(15, 1));
        argument("residual(0, 17)", x -> x.residual(0, 17));
        argument("predict(17)", x -> x.predict(17));
        argument("error(-1, 17)", x -> x.error(-1, 17));
    }

    private void trainIsRefused() {
        state("train(1)", x -> x.train(1));
        state("train(14)", x -> x.train(14));
        state("train(16)", x -> x.train(16));
        argument("train(0)", x -> x.train(0));
        argument("train(17)", x -> x.train(17));
    }
}
