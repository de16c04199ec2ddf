/** Promises 10 to 18: plans, training and trees. All answers were worked out by hand. */
public final class TrainTest {
    private static final int MISSING = ResidualTrees.MISSING;
    private static final int NONE = ResidualTrees.NONE;

    public static void main(String[] args) {
        splitOfNumbers();
        splitOfKinds();
        kindsThatNoRowHas();
        missingToTheRight();
        missingLeftBeforeRight();
        missingAlone();
        noneMissingGoesLeft();
        firstColumnFirst();
        firstEdgeFirst();
        kindsThatAreAlike();
        weightOrdersKinds();
        edgesAreThoseOfNow();
        noGainNoSplit();
        weightMayTakeTheGain();
        depth();
        least();
        shapeRefuses();
        rate();
        sample();
        sampleOfRowsToCome();
        trainRefuses();
        drop();
        node();
        nodesAndUses();
        Check.end();
    }

    /** Targets and values of one column. */
    private static ResidualTrees table(int[] targets, int... values) {
        ResidualTrees x = new ResidualTrees();
        for (int i = 0; i < targets.length; i++) {
            x.add(targets[i]);
            x.put(i, 0, values[i]);
        }
        return x;
    }

    private static void isSplit(String what, ResidualTrees x, int tree, int node, int... due) {
        for (int i = 0; i < due.length; i++) {
            Check.same(what + ": node(" + tree + ", " + node + ", " + i + ")", x.node(tree, node, i), due[i]);
        }
    }

    private static void splitOfNumbers() {
        ResidualTrees x = table(new int[] {0, 0, 10, 10}, 1, 2, 3, 4);
        x.cut(0, true, 4);
        Check.same("train", x.train(1), 1);
        Check.same("nodes", x.nodes(0), 3);
        isSplit("the root", x, 0, 0, 0, 3, 1, 1, 2, 4, 0, 0);
        isSplit("the left leaf", x, 0, 1, NONE, 0, 0, NONE, NONE, 2, 1, 0);
        isSplit("the right leaf", x, 0, 2, NONE, 0, 0, NONE, NONE, 2, 1, 0);
        Check.written("its gain", x, x.tell(0, 0), "100");
        Check.written("the left value", x, x.tell(0, 1), "0");
        Check.written("the right value", x, x.tell(0, 2), "5");
    }

    private static void splitOfKinds() {
        // The sums over how many: 3 has 1, 0 has 2, 7 has 9, 11 has 10.
        ResidualTrees x = table(new int[] {2, 9, 1, 1, 10, 9}, 0, 7, 3, 3, 11, 7);
        x.kinds(0, true);
        x.shape(1, 1, 0);
        x.rate(1, 1);
        x.train(1);
        isSplit("the root", x, 0, 0, 0, 1 << 3 | 1 << 0, 1, 1, 2, 6, 0, 1);
        Check.written("its gain", x, x.tell(0, 0), "96");
        Check.written("the left value", x, x.tell(0, 1), "4/3");
        Check.written("the right value", x, x.tell(0, 2), "28/3");
    }

    private static void kindsThatNoRowHas() {
        ResidualTrees x = table(new int[] {0, 8}, 2, 5);
        x.kinds(0, true);
        x.train(1);
        isSplit("the root", x, 0, 0, 0, 1 << 2, 1, 1, 2, 2, 0, 1);
        x.kinds(0, false);
        int[] elsewhere = {5, 3, 11, 12, 34, -1, -30, 1000000, -1000000};
        for (int value : elsewhere) {
            x.ask(0, value);
            Check.written("kinds that no row has go to the right", x, x.predict(1), "4");
        }
        x.ask(0, 2);
        Check.written("the split's kind goes to the left", x, x.predict(1), "0");
        x.ask(0, MISSING);
        Check.written("missing goes to the left", x, x.predict(1), "0");
        x.put(0, 0, 34);
        Check.written("a row with a value that is no kind now", x, x.residual(0, 1), "-4");
    }

    private static void missingToTheRight() {
        ResidualTrees x = table(new int[] {0, 0, 10, 10}, 1, 1, 2, MISSING);
        x.cut(0, false, 2);
        x.train(1);
        isSplit("the root", x, 0, 0, 0, 2, 0, 1, 2, 4, 0, 0);
        x.ask(0, MISSING);
        Check.written("a missing question goes to the right", x, x.predict(1), "5");
        x.begin(1);
        x.add(0);
        x.add(10);
        x.add(10);
        x.put(0, 0, 4);
        x.put(1, 0, 6);
        x.kinds(0, true);
        x.train(1);
        isSplit("missing kinds to the right", x, 0, 0, 0, 1 << 4, 0, 1, 2, 3, 0, 1);
    }

    private static void missingLeftBeforeRight() {
        // -4 0 | 4 and -4 | 4 0 both have the gain 24.
        ResidualTrees x = table(new int[] {-4, 4, 0}, 1, 2, MISSING);
        x.cut(0, true, 2);
        x.shape(1, 1, 0);
        x.train(1);
        isSplit("the root", x, 0, 0, 0, 2, 1, 1, 2, 3, 0, 0);
        Check.same("rows on the left", x.node(0, 1, 5), 2);
    }

    private static void missingAlone() {
        // All known values are in one bin, so that an edge can part known ones from missing ones alone.
        ResidualTrees x = table(new int[] {6, 6, 0, 0}, 5, 5, MISSING, MISSING);
        x.cut(0, true, 2);
        x.train(1);
        Check.same("no edges, no split", x.nodes(0), 1);
        x.drop(0);
        x.put(0, 0, 4);
        x.cut(0, true, 2);
        x.put(0, 0, 5);
        x.train(1);
        isSplit("the root", x, 0, 0, 0, 5, 1, 1, 2, 4, 0, 0);
        Check.same("missing ones alone on the left", x.node(0, 1, 5), 2);
        Check.written("their value", x, x.tell(0, 1), "0");
        x.kinds(0, true);
        x.drop(0);
        x.train(1);
        Check.same("one kind and missing ones are never split", x.nodes(0), 1);
    }

    private static void noneMissingGoesLeft() {
        ResidualTrees x = table(new int[] {0, 10}, 1, 2);
        x.cut(0, true, 2);
        x.train(1);
        Check.same("missing goes to the left", x.node(0, 0, 2), 1);
        x.add(0);
        Check.written("a missing row that comes later", x, x.residual(2, 1), "0");
    }

    private static void firstColumnFirst() {
        ResidualTrees x = new ResidualTrees();
        x.begin(3);
        for (int i = 0; i < 2; i++) {
            x.add(i * 10);
            x.put(i, 1, i);
            x.put(i, 2, i);
        }
        x.kinds(1, true);
        x.cut(2, true, 2);
        x.train(1);
        Check.same("the first column of the best", x.node(0, 0, 0), 1);
        x.sample(-1, 4);
        x.train(1);
        Check.same("the choice leaves the other one", x.node(1, 0, 0), 2);
    }

    private static void firstEdgeFirst() {
        // -1 | 2 -1 and -1 2 | -1 have the same gain.
        ResidualTrees x = table(new int[] {-1, 2, -1}, 1, 2, 3);
        x.cut(0, true, 3);
        x.shape(1, 1, 0);
        x.train(1);
        Check.same("the first edge of the best", x.node(0, 0, 1), 2);
        ResidualTrees y = table(new int[] {0, 9, 0, 0, 0}, 1, 6, 3, 4, 5);
        y.cut(0, true, 5);
        y.sample(3, 1);
        y.train(1);
        Check.same("the first edge that parts them so", y.node(0, 0, 1), 3);
    }

    private static void kindsThatAreAlike() {
        ResidualTrees x = table(new int[] {5, 5, 5, 5, -5}, 9, 4, 4, 1, 6);
        x.kinds(0, true);
        x.shape(1, 2, 0);
        x.train(1);
        // 6 comes first, then 1, 4, 9: 6 1 | 4 9 and 6 1 4 | 9, the latter has too few rows.
        Check.same("of alike kinds the lower first", x.node(0, 0, 1), 1 << 6 | 1 << 1);
    }

    private static void weightOrdersKinds() {
        // Kind 2: -2000 of 2 rows, kind 0: 2100 of 3, kind 1: 3000 of 6. Over the rows alone 1 comes before 0,
        // over the rows and 20 it comes behind it; 2 alone has too few rows for a side.
        ResidualTrees x = table(new int[] {-1000, -1000, 700, 700, 700, 500, 500, 500, 500, 500, 500},
                2, 2, 0, 0, 0, 1, 1, 1, 1, 1, 1);
        x.kinds(0, true);
        x.shape(1, 3, 0);
        x.train(1);
        Check.same("without weight", x.node(0, 0, 1), 1 << 2 | 1 << 1);
        x.drop(0);
        x.shape(1, 3, 20);
        x.train(1);
        Check.same("with weight 20", x.node(0, 0, 1), 1 << 2 | 1 << 0);
        Check.written("its gain", x, x.tell(0, 0), "475200/13");
    }

    private static void edgesAreThoseOfNow() {
        ResidualTrees x = table(new int[] {0, 10}, 1, 2);
        x.cut(0, true, 2);
        x.train(1);
        x.put(0, 0, 7);
        x.put(1, 0, 9);
        x.cut(0, true, 2);
        x.train(1);
        Check.same("the old tree keeps its edge", x.node(0, 0, 1), 2);
        Check.same("the new tree has the new one", x.node(1, 0, 1), 9);
        // By the first tree both rows are on its right now, where the value is 5; then -5 | 5 is split.
        Check.written("row 0", x, x.residual(0, 2), "-5/2");
        Check.written("row 1", x, x.residual(1, 2), "5/2");
        x.cut(0, true, 12);
        x.kinds(0, true);
        Check.same("nor does it matter what the column is now", x.node(0, 0, 7), 0);
        Check.written("row 1 still", x, x.residual(1, 2), "5/2");
    }

    private static void noGainNoSplit() {
        ResidualTrees x = table(new int[] {3, 3, 3}, 1, 2, 3);
        x.cut(0, true, 3);
        Check.same("train", x.train(16), 16);
        Check.same("a gain of 0 splits nothing", x.nodes(0), 1);
        Check.same("all trees are leaves", x.uses(0), 0);
        Check.written("the first value", x, x.tell(0, 0), "3/2");
        Check.written("the last value", x, x.tell(15, 0), "3/65536");
    }

    private static void weightMayTakeTheGain() {
        ResidualTrees x = table(new int[] {4, 6}, 1, 2);
        x.cut(0, true, 2);
        x.shape(2, 1, 20);
        x.train(1);
        // 16 / 21 + 36 / 21 - 100 / 22 is below 0.
        Check.same("a gain below 0 splits nothing", x.nodes(0), 1);
        Check.written("its value", x, x.tell(0, 0), "5/22");
    }

    private static ResidualTrees powers(int rows) {
        ResidualTrees x = new ResidualTrees();
        for (int i = 0; i < rows; i++) {
            x.add(i < 10 ? 1 << i : 1000);
            x.put(i, 0, i);
        }
        x.cut(0, true, 12);
        return x;
    }

    private static void depth() {
        for (int depth = 1; depth <= 4; depth++) {
            ResidualTrees x = powers(8);
            x.shape(depth, 1, 0);
            x.train(1);
            int deepest = 0;
            for (int i = 0; i < x.nodes(0); i++) {
                deepest = Math.max(deepest, x.node(0, i, 6));
            }
            Check.same("the deepest node", deepest, depth);
        }
        ResidualTrees full = new ResidualTrees();
        full.begin(4);
        for (int i = 0; i < 16; i++) {
            full.add(8 * (i >> 3 & 1) * 8 + 4 * (i >> 2 & 1) * 4 + 2 * (i >> 1 & 1) * 2 + (i & 1));
            for (int c = 0; c < 4; c++) {
                full.put(i, c, i >> 3 - c & 1);
            }
        }
        for (int c = 0; c < 4; c++) {
            full.kinds(c, true);
        }
        full.shape(4, 1, 0);
        full.rate(1, 1);
        full.train(1);
        Check.same("a full tree", full.nodes(0), 31);
        for (int c = 0; c < 4; c++) {
            Check.same("its splits at depth " + c, full.uses(c), 1 << c);
        }
        Check.same("the root's right side", full.node(0, 0, 4), 16);
        Check.written("nothing is left", full, full.error(-1, 1), "0");
    }

    private static void least() {
        ResidualTrees x = powers(8);
        x.shape(1, 3, 0);
        x.train(1);
        Check.same("three rows on the right at least", x.node(0, 2, 5), 3);
        x.drop(0);
        x.shape(1, 4, 0);
        x.train(1);
        Check.same("four rows on each side", x.node(0, 1, 5), 4);
        x.drop(0);
        x.shape(4, 5, 0);
        x.train(1);
        Check.same("five and five are too many", x.nodes(0), 1);
        ResidualTrees y = table(new int[] {0, 0, 10, 0}, 1, 1, 2, MISSING);
        y.cut(0, false, 2);
        y.shape(1, 2, 0);
        y.train(1);
        // With the missing one on the left the gain would be 75, but one row alone on the right.
        Check.same("missing ones count, too", y.node(0, 0, 2), 0);
        Check.written("the gain", y, y.tell(0, 0), "25");
        y.drop(0);
        y.shape(1, 1, 0);
        y.train(1);
        Check.same("missing ones to the left", y.node(0, 0, 2), 1);
        Check.written("the greater gain", y, y.tell(0, 0), "75");
    }

    private static void shapeRefuses() {
        ResidualTrees x = powers(8);
        x.shape(1, 1, 0);
        Check.badArgument("depth 0", () -> x.shape(0, 2, 2));
        Check.badArgument("depth 5", () -> x.shape(5, 2, 2));
        Check.badArgument("least 0", () -> x.shape(3, 0, 2));
        Check.badArgument("least 25", () -> x.shape(3, 25, 2));
        Check.badArgument("weight -1", () -> x.shape(3, 8, -1));
        Check.badArgument("weight 21", () -> x.shape(3, 8, 21));
        x.train(1);
        Check.same("refused shapes change nothing", x.nodes(0), 3);
        x.shape(4, 24, 20);
        x.train(1);
        Check.same("the greatest shape", x.nodes(1), 1);
    }

    private static void rate() {
        ResidualTrees x = new ResidualTrees();
        x.add(7);
        x.rate(3, 7);
        Check.badArgument("rate(0, 1)", () -> x.rate(0, 1));
        Check.badArgument("rate(2, 1)", () -> x.rate(2, 1));
        Check.badArgument("rate(1, 17)", () -> x.rate(1, 17));
        Check.badArgument("rate(17, 17)", () -> x.rate(17, 17));
        Check.badArgument("rate(1, 0)", () -> x.rate(1, 0));
        Check.badArgument("rate(0, 0)", () -> x.rate(0, 0));
        Check.badArgument("rate(-1, -1)", () -> x.rate(-1, -1));
        x.train(1);
        Check.written("refused rates change nothing", x, x.tell(0, 0), "3");
        x.rate(16, 16);
        x.train(1);
        Check.written("a rate of 1", x, x.tell(1, 0), "4");
        x.drop(0);
        x.rate(1, 16);
        x.train(1);
        Check.written("the least rate", x, x.tell(0, 0), "7/16");
    }

    private static void sample() {
        ResidualTrees x = table(new int[] {0, 10, 100, 1000}, 1, 2, 3, 4);
        x.cut(0, true, 4);
        x.rate(1, 1);
        Check.same("sample(5, 1)", x.sample(5, 1), 2);
        Check.same("sample of rows that are not there", x.sample(-16, 1), 0);
        Check.badState("no row is in the sample", () -> x.train(1));
        Check.same("sample of all", x.sample(-1, 1), 4);
        Check.same("sample(5, 1)", x.sample(5, 1), 2);
        x.train(1);
        Check.same("rows of the root", x.node(0, 0, 5), 2);
        Check.same("the edge", x.node(0, 0, 1), 2);
        Check.written("a row out of the sample", x, x.residual(3, 1), "900");
        Check.written("the other one", x, x.residual(1, 1), "-90");
        x.sample(8, 1);
        x.train(1);
        Check.written("a sample of one", x, x.tell(1, 0), "900");
        Check.written("its residual", x, x.residual(3, 2), "0");
        Check.same("columns that are not there", x.sample(-1, -2), 4);
        Check.badState("no column is in the choice", () -> x.train(1));
        Check.same("count(2) behind refused trains", x.count(2), 2);
    }

    private static void sampleOfRowsToCome() {
        ResidualTrees x = new ResidualTrees();
        Check.same("sample without rows", x.sample(6, 1), 0);
        x.add(1);
        Check.badState("row 0 is not in it", () -> x.train(1));
        x.add(2);
        x.train(1);
        Check.same("row 1 is in it", x.node(0, 0, 5), 1);
        for (int i = 2; i < 48; i++) {
            x.add(0);
        }
        Check.same("48 rows", x.sample(-1, 1), 48);
        Check.same("the last row", x.sample(1L << 47, 1), 1);
        Check.same("behind the last row", x.sample(-1L << 48, 1), 0);
    }

    private static void trainRefuses() {
        ResidualTrees x = new ResidualTrees();
        Check.badState("train without rows", () -> x.train(1));
        Check.badArgument("train(0) without rows", () -> x.train(0));
        x.add(5);
        Check.badArgument("train(0)", () -> x.train(0));
        Check.badArgument("train(17)", () -> x.train(17));
        Check.badArgument("train(-1)", () -> x.train(-1));
        Check.same("train(10)", x.train(10), 10);
        Check.badState("train(7)", () -> x.train(7));
        Check.badArgument("train(17) is no number of rounds", () -> x.train(17));
        Check.same("count(2)", x.count(2), 10);
        Check.same("train(6)", x.train(6), 6);
        Check.badState("train(1)", () -> x.train(1));
        Check.same("count(2)", x.count(2), 16);
    }

    private static void drop() {
        ResidualTrees x = new ResidualTrees();
        Check.same("drop(0) of none", x.drop(0), 0);
        Check.badArgument("drop(1) of none", () -> x.drop(1));
        x.add(8);
        x.train(4);
        Check.badArgument("drop(-1)", () -> x.drop(-1));
        Check.badArgument("drop(5)", () -> x.drop(5));
        Check.same("drop(4)", x.drop(4), 0);
        Check.same("drop(1)", x.drop(1), 3);
        Check.same("count(2)", x.count(2), 1);
        Check.badArgument("tell of a tree that is gone", () -> x.tell(1, 0));
        Check.written("the first tree stays", x, x.tell(0, 0), "4");
        x.train(1);
        Check.written("the next one is grown for what it left", x, x.tell(1, 0), "2");
        Check.same("drop(0)", x.drop(0), 2);
        Check.badArgument("nodes(0)", () -> x.nodes(0));
    }

    private static void node() {
        ResidualTrees x = table(new int[] {0, 1, 10, 13}, 1, 2, 3, 4);
        x.cut(0, true, 4);
        x.train(1);
        isSplit("node 0", x, 0, 0, 0, 3, 1, 1, 4, 4, 0, 0);
        isSplit("node 1", x, 0, 1, 0, 2, 1, 2, 3, 2, 1, 0);
        isSplit("node 2", x, 0, 2, NONE, 0, 0, NONE, NONE, 1, 2, 0);
        isSplit("node 4", x, 0, 4, 0, 4, 1, 5, 6, 2, 1, 0);
        isSplit("node 6", x, 0, 6, NONE, 0, 0, NONE, NONE, 1, 2, 0);
        Check.badArgument("node 7", () -> x.node(0, 7, 0));
        Check.badArgument("node -1", () -> x.node(0, -1, 0));
        Check.badArgument("tree 1", () -> x.node(1, 0, 0));
        Check.badArgument("tree -1", () -> x.node(-1, 0, 0));
        Check.badArgument("what 8", () -> x.node(0, 0, 8));
        Check.badArgument("what -1", () -> x.node(0, 0, -1));
        // A smaller tree in the same place leaves nothing of the greater one.
        x.drop(0);
        x.sample(1, 1);
        x.train(1);
        isSplit("the only node", x, 0, 0, NONE, 0, 0, NONE, NONE, 1, 0, 0);
        Check.badArgument("node 1 is gone", () -> x.node(0, 1, 0));
        x.drop(0);
        x.kinds(0, true);
        x.sample(-1, 1);
        x.train(1);
        Check.same("a split of kinds", x.node(0, 0, 7), 1);
        x.drop(0);
        x.sample(1, 1);
        x.train(1);
        isSplit("a leaf in its place", x, 0, 0, NONE, 0, 0, NONE, NONE, 1, 0, 0);
    }

    private static void nodesAndUses() {
        ResidualTrees x = new ResidualTrees();
        x.begin(2);
        int[] targets = {0, 1, 10, 13};
        for (int i = 0; i < 4; i++) {
            x.add(targets[i]);
            x.put(i, 0, i / 2);
            x.put(i, 1, i % 2);
        }
        x.cut(0, true, 2);
        x.kinds(1, true);
        x.train(1);
        Check.same("nodes(0)", x.nodes(0), 7);
        Check.same("uses(0)", x.uses(0), 1);
        Check.same("uses(1)", x.uses(1), 2);
        x.train(1);
        Check.same("uses(0) in two trees", x.uses(0), 2);
        Check.same("uses(1) in two trees", x.uses(1), 4);
        Check.badArgument("nodes(2)", () -> x.nodes(2));
        Check.badArgument("nodes(-1)", () -> x.nodes(-1));
        Check.badArgument("uses(2)", () -> x.uses(2));
        Check.badArgument("uses(-1)", () -> x.uses(-1));
        x.drop(1);
        Check.same("uses(1) in one tree", x.uses(1), 2);
    }
}
