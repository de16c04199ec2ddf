import java.math.BigInteger;

/**
 * The boundary cases that the document's section "Terms" names for trees, training and splits, each sentence with a
 * test of its own. All answers were worked out by hand.
 */
public final class GrowthTest {
    private static final int MISSING = ResidualTrees.MISSING;
    private static final int NONE = ResidualTrees.NONE;

    public static void main(String[] args) {
        leftNodesThenRightNodes();
        belowTheEdge();
        amongTheKinds();
        missingAsTheSplitSays();
        whatAColumnIsNowIsNoMatter();
        byNoTreesAndByAll();
        atMost16Trees();
        planAtFirst();
        bitsOfRowsThatThereAreNot();
        bitsOfColumnsThatThereAreNot();
        rootHasTheSample();
        leastRowsOnTheLeft();
        leastRowsOnTheRight();
        leastOf24();
        leastCountsMissingOnes();
        firstAndLastEdge();
        edgesWithoutRows();
        firstAndLastKind();
        oneKindIsNotSplit();
        kindsOutOfTheNodeGoRight();
        kindsThatAreAlikeByNumber();
        kindsBelowZero();
        kindsByRowsAndWeight();
        missingElsewhereIsNoMatter();
        allMissingIsNotSplit();
        oneMissingRow();
        greaterGainOfALaterColumn();
        alikeGainsByColumn();
        alikeGainsByEdge();
        alikeGainsByMissing();
        edgeBeforeLeftOrRight();
        gainsThatDifferByNextToNothing();
        gainOfZero();
        gainOfZeroByWeight();
        gainNextToZero();
        depthsOneToFour();
        leafOfAll();
        roundsWithNothingLeft();
        roundsGoByTheRowsOfNow();
        treesStayAsTheyWere();
        Check.end();
    }

    /** Targets and values of one column. */
    private static ResidualTrees table(int[] targets, int... values) {
        ResidualTrees x = new ResidualTrees();
        for (int i = 0; i < targets.length; i++) {
            x.add(targets[i]);
            x.put(i, 0, values[i]);
        }
        return x;
    }

    /** So many rows behind the others, all with the same target and value. */
    private static void addRows(ResidualTrees x, int count, int target, int value) {
        for (int i = 0; i < count; i++) {
            x.put(x.add(target), 0, value);
        }
    }

    private static void isSplit(String what, ResidualTrees x, int tree, int mark, int missingLeft, int leftRows) {
        Check.same(what + ": edge or kinds", x.node(tree, 0, 1), mark);
        Check.same(what + ": missing ones", x.node(tree, 0, 2), missingLeft);
        Check.same(what + ": rows on the left", x.node(tree, x.node(tree, 0, 3), 5), leftRows);
    }

    /** "behind each node that is split those of its left side come, then those of its right side" */
    private static void leftNodesThenRightNodes() {
        ResidualTrees x = new ResidualTrees();
        x.begin(4);
        for (int i = 0; i < 16; i++) {
            x.add(64 * (i >> 3 & 1) + 16 * (i >> 2 & 1) + 4 * (i >> 1 & 1) + (i & 1));
            for (int c = 0; c < 4; c++) {
                x.put(i, c, i >> 3 - c & 1);
            }
        }
        for (int c = 0; c < 4; c++) {
            x.cut(c, true, 2);
        }
        x.shape(4, 1, 0);
        x.train(1);
        Check.same("a full tree", x.nodes(0), 31);
        Check.same("nodes behind the root and all its sides", nodesFrom(x, 0, 0), 31);
        ResidualTrees y = table(new int[] {0, 100, 101, 103}, 1, 2, 3, 4);
        y.cut(0, true, 4);
        y.shape(4, 1, 0);
        y.train(1);
        // 0 | 100 101 103, then 100 101 | 103, then 100 | 101.
        Check.same("a lopsided tree", y.nodes(0), 7);
        Check.same("the root's right side", y.node(0, 0, 4), 2);
        Check.same("its left side", y.node(0, 2, 3), 3);
        Check.same("its right side", y.node(0, 2, 4), 6);
        Check.same("nodes behind the root", nodesFrom(y, 0, 0), 7);
    }

    /** How many nodes there are from a node on to the last one of its sides. */
    private static int nodesFrom(ResidualTrees x, int node, int depth) {
        Check.same("depth of node " + node, x.node(0, node, 6), depth);
        int left = x.node(0, node, 3);
        int right = x.node(0, node, 4);
        if (left == NONE) {
            Check.same("a leaf's right side", right, NONE);
            return 1;
        }
        Check.same("left side of node " + node, left, node + 1);
        int leftNodes = nodesFrom(x, left, depth + 1);
        Check.same("right side of node " + node, right, left + leftNodes);
        return 1 + leftNodes + nodesFrom(x, right, depth + 1);
    }

    /** "it goes to the left, if its value there is below the split's EDGE (numbers)" */
    private static void belowTheEdge() {
        ResidualTrees x = table(new int[] {0, 10, 7}, 1, 5, MISSING);
        x.cut(0, true, 2);
        x.sample(3, 1);
        x.train(1);
        Check.same("the edge", x.node(0, 0, 1), 5);
        int[] values = {-1000000, 4, 5, 6, 1000000};
        String[] predictions = {"0", "0", "5", "5", "5"};
        String[] residuals = {"7", "7", "2", "2", "2"};
        for (int i = 0; i < values.length; i++) {
            x.ask(0, values[i]);
            Check.written("the question of " + values[i], x, x.predict(1), predictions[i]);
            x.put(2, 0, values[i]);
            Check.written("the row of " + values[i], x, x.residual(2, 1), residuals[i]);
        }
    }

    /** "or among the split's kinds (kinds); else to the right" */
    private static void amongTheKinds() {
        ResidualTrees x = table(new int[] {0, 0, 10, 7}, 0, 11, 5, MISSING);
        x.kinds(0, true);
        x.sample(7, 1);
        x.train(1);
        isSplit("0 and 11 | 5", x, 0, 1 | 1 << 11, 1, 2);
        for (int kind = 0; kind <= 11; kind++) {
            boolean left = kind == 0 || kind == 11;
            x.ask(0, kind);
            Check.written("the question of kind " + kind, x, x.predict(1), left ? "0" : "5");
            x.put(3, 0, kind);
            Check.written("the row of kind " + kind, x, x.residual(3, 1), left ? "7" : "2");
        }
    }

    /** "MISSING, as the split says" */
    private static void missingAsTheSplitSays() {
        for (int side = 0; side <= 1; side++) {
            ResidualTrees x = table(new int[] {0, 10, side == 0 ? 10 : 0, 7}, 1, 2, MISSING, MISSING);
            x.cut(0, true, 2);
            x.sample(7, 1);
            x.shape(1, 1, 0);
            x.train(1);
            isSplit("numbers", x, 0, 2, side, side == 0 ? 1 : 2);
            Check.written("a missing row", x, x.residual(3, 1), side == 0 ? "2" : "7");
            Check.written("a missing question", x, x.predict(1), side == 0 ? "5" : "0");
            x.kinds(0, true);
            x.drop(0);
            x.train(1);
            isSplit("kinds", x, 0, 1 << 1, side, side == 0 ? 1 : 2);
            Check.written("a row of a missing kind", x, x.residual(3, 1), side == 0 ? "2" : "7");
            Check.written("a question of a missing kind", x, x.predict(1), side == 0 ? "5" : "0");
        }
    }

    /** "(What a column is now, and its edges now, are no matter.)" */
    private static void whatAColumnIsNowIsNoMatter() {
        ResidualTrees x = table(new int[] {0, 10}, 3, 5);
        x.cut(0, true, 2);
        x.train(1);
        x.ask(0, 4);
        x.put(0, 0, 0);
        x.put(1, 0, 1);
        x.cut(0, true, 2);
        Check.written("other edges", x, x.predict(1), "0");
        x.kinds(0, true);
        Check.written("kinds now", x, x.predict(1), "0");
        Check.written("a row of kinds now, by its old edge", x, x.residual(1, 1), "10");
        x.drop(0);
        x.train(1);
        isSplit("by kinds", x, 0, 1 << 0, 1, 1);
        x.kinds(0, false);
        int[] others = {-1, 12, 31, 32, 64, -32, 1000000, -1000000};
        for (int value : others) {
            x.put(0, 0, value);
            Check.written("a number that is no kind", x, x.residual(0, 1), "-5");
            x.ask(0, value);
            Check.written("a question that is no kind", x, x.predict(1), "5");
        }
        x.put(0, 0, 0);
        Check.written("a number that is one of the kinds", x, x.residual(0, 1), "0");
    }

    /** "A PREDICTION by k trees is the sum of the values of the leaves to which it comes in the first k trees" */
    private static void byNoTreesAndByAll() {
        ResidualTrees x = table(new int[] {8}, 1);
        x.train(3);
        String[] predictions = {"0", "4", "6", "7"};
        String[] residuals = {"8", "4", "2", "1"};
        String[] errors = {"64", "16", "4", "1"};
        for (int k = 0; k <= 3; k++) {
            Check.written("prediction by " + k, x, x.predict(k), predictions[k]);
            Check.written("residual by " + k, x, x.residual(0, k), residuals[k]);
            Check.written("error by " + k, x, x.error(1, k), errors[k]);
        }
    }

    /** "TRAINING adds trees, one in each ROUND, at most 16 in all." */
    private static void atMost16Trees() {
        ResidualTrees x = table(new int[] {1}, 1);
        Check.same("all at once", x.train(16), 16);
        Check.badState("a 17th tree", () -> x.train(1));
        x.drop(15);
        Check.badState("two more", () -> x.train(2));
        Check.same("one more", x.train(1), 1);
        x.drop(0);
        for (int i = 0; i < 16; i++) {
            Check.same("one by one", x.train(1), 1);
            Check.same("trees", x.count(2), i + 1);
        }
        Check.badState("a 17th tree", () -> x.train(1));
        Check.written("the last one", x, x.tell(15, 0), "1/65536");
        x.begin(1);
        x.add(1);
        Check.same("all at once behind begin", x.train(16), 16);
    }

    /** "(at first: all rows, all columns, 2, 1, 0, 1 / 2)" */
    private static void planAtFirst() {
        ResidualTrees x = new ResidualTrees();
        x.shape(4, 3, 5);
        x.rate(2, 3);
        x.sample(1, 1);
        x.begin(6);
        isByThePlanAtFirst(x);
        ResidualTrees y = new ResidualTrees();
        y.begin(6);
        isByThePlanAtFirst(y);
    }

    private static void isByThePlanAtFirst(ResidualTrees x) {
        int[] targets = {0, 1, 4, 9, 16, 25, 36, 49};
        for (int row = 0; row < 8; row++) {
            x.add(targets[row]);
            x.put(row, 5, row);
        }
        x.cut(5, true, 8);
        x.train(1);
        Check.same("all rows", x.node(0, 0, 5), 8);
        Check.same("all columns", x.node(0, 0, 0), 5);
        // 0 1 4 9 16 | 25 36 49, then 0 1 4 | 9 16 and 25 36 | 49, and no further.
        Check.same("depth 2", x.nodes(0), 7);
        Check.same("least 1", x.node(0, 6, 5), 1);
        Check.written("weight 0, rate 1 / 2", x, x.tell(0, 6), "49/2");
    }

    /** "the SAMPLE (the rows of which the bits are set, of those that there are)" */
    private static void bitsOfRowsThatThereAreNot() {
        ResidualTrees x = table(new int[] {1, 2, 4}, 0, 0, 0);
        x.rate(1, 1);
        long[] bits = {-1, 7, 7 | 1L << 63, 5, 5 | 1L << 48, ~2L, 4 | 1L << 3};
        int[] rows = {3, 3, 3, 2, 2, 2, 1};
        String[] values = {"7/3", "7/3", "7/3", "5/2", "5/2", "5/2", "4"};
        for (int i = 0; i < bits.length; i++) {
            Check.same("sample(" + bits[i] + ")", x.sample(bits[i], 1), rows[i]);
            x.train(1);
            Check.same("rows of the root", x.node(0, 0, 5), rows[i]);
            Check.written("its value", x, x.tell(0, 0), values[i]);
            x.drop(0);
        }
        for (long none : new long[] {0, 8, -8, 1L << 48, 1L << 63}) {
            Check.same("sample(" + none + ")", x.sample(none, 1), 0);
            Check.badState("train by it", () -> x.train(1));
        }
    }

    /** "the choice of columns by bits (those that there are)" */
    private static void bitsOfColumnsThatThereAreNot() {
        ResidualTrees x = new ResidualTrees();
        x.begin(3);
        for (int row = 0; row < 2; row++) {
            x.add(row);
            for (int c = 0; c < 3; c++) {
                x.put(row, c, row);
            }
        }
        for (int c = 0; c < 3; c++) {
            x.cut(c, true, 2);
        }
        int[] bits = {-1, 7, 6, -2, 4, -4, 4 | 1 << 31, 2 | 8};
        int[] first = {0, 0, 1, 1, 2, 2, 2, 1};
        for (int i = 0; i < bits.length; i++) {
            x.sample(-1, bits[i]);
            x.train(1);
            Check.same("the first column of the choice " + bits[i], x.node(0, 0, 0), first[i]);
            x.drop(0);
        }
        for (int none : new int[] {0, 8, -8, 64, 1 << 31}) {
            Check.same("sample(-1, " + none + ")", x.sample(-1, none), 2);
            Check.badState("train by it", () -> x.train(1));
        }
    }

    /** "The root has all rows of the sample.": also if it is a leaf. */
    private static void rootHasTheSample() {
        ResidualTrees x = table(new int[] {0, 0, 9, 9, 5}, 1, 1, 2, 2, 2);
        x.cut(0, true, 5);
        x.sample(15, 1);
        x.train(1);
        Check.same("rows of a root that is split", x.node(0, 0, 5), 4);
        x.shape(1, 3, 0);
        x.train(1);
        Check.same("a leaf", x.nodes(1), 1);
        Check.same("rows of a root that is a leaf", x.node(1, 0, 5), 4);
    }

    /** "two sides with at least LEAST rows each": just so many on the left, and one too few. */
    private static void leastRowsOnTheLeft() {
        ResidualTrees x = table(new int[] {9, 9, 0, 0, 0, 0, 0}, 1, 1, 2, 2, 3, 3, 3);
        x.cut(0, true, 7);
        x.shape(1, 2, 0);
        x.train(1);
        isSplit("two on the left are enough", x, 0, 2, 1, 2);
        x.drop(0);
        x.shape(1, 3, 0);
        x.train(1);
        isSplit("two on the left are too few", x, 0, 3, 1, 4);
    }

    private static void leastRowsOnTheRight() {
        ResidualTrees x = table(new int[] {9, 9, 0, 0, 0, 0, 0}, 3, 3, 2, 2, 1, 1, 1);
        x.cut(0, true, 7);
        x.shape(1, 2, 0);
        x.train(1);
        isSplit("two on the right are enough", x, 0, 3, 1, 5);
        x.drop(0);
        x.shape(1, 3, 0);
        x.train(1);
        isSplit("two on the right are too few", x, 0, 2, 1, 3);
        x.drop(0);
        x.shape(1, 4, 0);
        x.train(1);
        Check.same("there are no four and four", x.nodes(0), 1);
    }

    /** The greatest LEAST needs all 48 rows. */
    private static void leastOf24() {
        ResidualTrees x = new ResidualTrees();
        addRows(x, 24, 0, 0);
        addRows(x, 23, 10, 1);
        x.cut(0, false, 2);
        x.shape(4, 24, 0);
        x.train(1);
        Check.same("24 and 23 rows", x.nodes(0), 1);
        x.drop(0);
        x.shape(4, 23, 0);
        x.train(1);
        Check.same("23 are enough now", x.nodes(0), 3);
        x.drop(0);
        addRows(x, 1, 10, 1);
        x.shape(4, 24, 0);
        x.train(1);
        Check.same("24 and 24 rows", x.nodes(0), 3);
        Check.written("the gain: 240 * 240 / 24 - 240 * 240 / 48", x, x.tell(0, 0), "1200");
        x.drop(0);
        x.put(0, 0, 1);
        x.train(1);
        Check.same("23 and 25 rows", x.nodes(0), 1);
    }

    /** Missing rows count on the side to which they go: there only can be a split with enough rows. */
    private static void leastCountsMissingOnes() {
        ResidualTrees x = new ResidualTrees();
        addRows(x, 23, 0, 0);
        addRows(x, 24, 10, 1);
        addRows(x, 1, 10, MISSING);
        x.cut(0, false, 2);
        x.shape(1, 24, 0);
        x.train(1);
        isSplit("missing ones to the left", x, 0, 1, 1, 24);
        x.drop(0);
        x.shape(1, 23, 0);
        x.train(1);
        isSplit("missing ones to the right", x, 0, 1, 0, 23);
    }

    /** "for k from 1 to how many edges there are" */
    private static void firstAndLastEdge() {
        int[] values = {0, 1, 2, 3, 4, 5, 6, 7, 8, 9, 10, 11};
        ResidualTrees first = table(new int[] {50, 0, 0, 0, 0, 0, 0, 0, 0, 0, 0, 0}, values);
        first.cut(0, true, 12);
        first.shape(1, 1, 0);
        first.train(1);
        isSplit("the first of eleven edges", first, 0, 1, 1, 1);
        ResidualTrees last = table(new int[] {0, 0, 0, 0, 0, 0, 0, 0, 0, 0, 0, 50}, values);
        last.cut(0, true, 12);
        last.shape(1, 1, 0);
        last.train(1);
        isSplit("the last of eleven edges", last, 0, 11, 1, 11);
    }

    /** Edges below or above all rows of the node part nothing; of those that part alike the first one counts. */
    private static void edgesWithoutRows() {
        ResidualTrees x = table(new int[] {0, 0, 8, 8, 0, 0}, 0, 1, 4, 9, 12, 13);
        x.cut(0, true, 6);
        x.sample(4 | 8, 1);
        x.train(1);
        Check.same("4 and 9 have the same targets", x.nodes(0), 1);
        x.drop(0);
        x.target(3, 20);
        x.train(1);
        isSplit("4 | 9", x, 0, 9, 1, 1);
        x.drop(0);
        x.put(3, 0, 12);
        x.train(1);
        isSplit("4 | 12: 9 is the first edge between them", x, 0, 9, 1, 1);
        x.drop(0);
        x.put(3, 0, 4);
        x.train(1);
        Check.same("4 and 4 can't be parted", x.nodes(0), 1);
    }

    /** "for k from 1 to one less than they are: the first k on the left" */
    private static void firstAndLastKind() {
        ResidualTrees x = new ResidualTrees();
        for (int kind = 0; kind <= 11; kind++) {
            x.add(kind == 7 ? -50 : 0);
            x.put(kind, 0, kind);
        }
        x.kinds(0, true);
        x.shape(1, 1, 0);
        x.train(1);
        isSplit("the first kind alone on the left", x, 0, 1 << 7, 1, 1);
        x.drop(0);
        x.target(7, 50);
        x.train(1);
        isSplit("the last kind alone on the right", x, 0, 0xfff ^ 1 << 7, 1, 11);
        x.drop(0);
        x.sample(1 << 7 | 1 << 2, 1);
        x.train(1);
        isSplit("two kinds", x, 0, 1 << 2, 1, 1);
    }

    private static void oneKindIsNotSplit() {
        ResidualTrees x = table(new int[] {0, 50, 0, 50, 99}, 4, 4, 4, 4, MISSING);
        x.kinds(0, true);
        x.sample(15, 1);
        x.train(1);
        Check.same("one kind", x.nodes(0), 1);
        x.sample(-1, 1);
        x.train(1);
        Check.same("one kind and a missing row", x.nodes(1), 1);
        x.put(4, 0, 5);
        x.train(1);
        Check.same("two kinds", x.nodes(2), 3);
    }

    /** "all others, those that no row has, too, on the right": rows of the table that are not in the node are none. */
    private static void kindsOutOfTheNodeGoRight() {
        ResidualTrees x = table(new int[] {0, 10, -100}, 4, 6, 2);
        x.kinds(0, true);
        x.sample(3, 1);
        x.train(1);
        isSplit("4 | 6", x, 0, 1 << 4, 1, 1);
        Check.written("kind 2, of a row out of the sample", x, x.residual(2, 1), "-105");
        x.drop(0);
        x.sample(-1, 1);
        x.rate(1, 1);
        x.train(1);
        // 2 | 4 6, then 4 | 6: there 2 is on the right, too.
        isSplit("2 | 4 6", x, 0, 1 << 2, 1, 1);
        Check.same("4 | 6 in its right side", x.node(0, 2, 1), 1 << 4);
        Check.same("its rows", x.node(0, 2, 5), 2);
    }

    /** "in the order of their sums over (how many, and w), rising, then of the kinds" */
    private static void kindsThatAreAlikeByNumber() {
        // Kinds 11, 3 and 8 are alike, though their sums are not; 5 comes before, 0 behind them.
        ResidualTrees x = table(new int[] {4, 4, 4, 4, 4, 4, -20, 30}, 11, 11, 11, 3, 8, 8, 5, 0);
        x.kinds(0, true);
        x.shape(1, 2, 0);
        x.train(1);
        // 5 3 | 11 8 8 0 has -16 over 2 and 50 over 6; 5 3 8 | 11 0 has -8 over 4 and 42 over 4.
        isSplit("5 and the lowest of those that are alike", x, 0, 1 << 5 | 1 << 3, 1, 2);
        x.drop(0);
        x.shape(1, 3, 0);
        x.train(1);
        isSplit("5 and the two lowest", x, 0, 1 << 5 | 1 << 3 | 1 << 8, 1, 4);
    }

    /** "rising": -9 comes before -1, and both before 0 and 5. */
    private static void kindsBelowZero() {
        ResidualTrees x = table(new int[] {-1, 5, -9, 0}, 0, 1, 2, 3);
        x.kinds(0, true);
        x.shape(1, 1, 0);
        x.train(1);
        // -9 | -1 0 5 has 81 + 16 / 3, -9 -1 | 0 5 has 50 + 25 / 2.
        isSplit("-9 | -1 0 5", x, 0, 1 << 2, 1, 1);
        x.drop(0);
        x.shape(1, 2, 0);
        x.train(1);
        isSplit("-9 -1 | 0 5", x, 0, 1 << 2 | 1 << 0, 1, 2);
    }

    /** "their sums over (how many, and w)": with weight 1 kind 0 has 10 / 3, kind 1 has 12 / 5, kind 2 comes first. */
    private static void kindsByRowsAndWeight() {
        ResidualTrees x = table(new int[] {-1000, 5, 5, 3, 3, 3, 3}, 2, 0, 0, 1, 1, 1, 1);
        x.kinds(0, true);
        x.shape(1, 2, 1);
        x.train(1);
        isSplit("2 1 | 0", x, 0, 1 << 2 | 1 << 1, 1, 5);
        x.drop(0);
        x.target(1, 3);
        x.target(2, 3);
        x.train(1);
        // Kind 0 has 6 / 3 now, which is below 12 / 5, though its rows are as those of kind 1.
        isSplit("2 0 | 1", x, 0, 1 << 2 | 1 << 0, 1, 3);
    }

    /** "If a row of the node is MISSING there ..; otherwise to the left." */
    private static void missingElsewhereIsNoMatter() {
        ResidualTrees x = table(new int[] {0, 10, 10}, 1, 2, MISSING);
        x.cut(0, true, 2);
        x.shape(1, 1, 0);
        x.sample(3, 1);
        x.train(1);
        isSplit("the missing row is not in the sample", x, 0, 2, 1, 1);
        Check.written("it goes to the left", x, x.residual(2, 1), "10");
        x.sample(7, 1);
        x.drop(0);
        x.train(1);
        isSplit("it is in the sample", x, 0, 2, 0, 1);
        ResidualTrees y = new ResidualTrees();
        y.begin(2);
        int[] targets = {0, 10, 100, 100};
        int[] values = {1, 2, MISSING, MISSING};
        for (int i = 0; i < 4; i++) {
            y.add(targets[i]);
            y.put(i, 0, values[i]);
            y.put(i, 1, i / 2);
        }
        y.cut(0, true, 2);
        y.kinds(1, true);
        y.train(1);
        Check.same("the root is split by kinds", y.node(0, 0, 0), 1);
        Check.same("its left side by numbers", y.node(0, 1, 0), 0);
        Check.same("no row of it is missing there", y.node(0, 1, 2), 1);
        Check.same("its right side is all missing and alike", y.node(0, 4, 0), NONE);
    }

    private static void allMissingIsNotSplit() {
        ResidualTrees x = table(new int[] {0, 10, 5, 7}, 1, 2, MISSING, MISSING);
        x.cut(0, true, 2);
        x.sample(12, 1);
        x.train(1);
        Check.same("numbers that are all missing", x.nodes(0), 1);
        x.kinds(0, true);
        x.train(1);
        Check.same("kinds that are all missing", x.nodes(1), 1);
    }

    /** "missing ones go to the left, then the same with them to the right": be it the first row or the last. */
    private static void oneMissingRow() {
        for (int row = 0; row < 48; row += 47) {
            ResidualTrees x = new ResidualTrees();
            addRows(x, 24, 10, 1);
            addRows(x, 24, 0, 0);
            x.target(row, 10);
            x.put(row, 0, MISSING);
            x.cut(0, false, 2);
            x.train(1);
            isSplit("to the right with row " + row, x, 0, 1, 0, row == 0 ? 24 : 23);
            x.drop(0);
            x.target(row, 0);
            x.train(1);
            isSplit("to the left with row " + row, x, 0, 1, 1, row == 0 ? 25 : 24);
        }
    }

    /** Two columns for rows with -5 -5 5 5: one of them parts 1 | 2 | 34, the other one 12 | 34. */
    private static ResidualTrees twoColumns(int fine, int coarse) {
        ResidualTrees x = new ResidualTrees();
        x.begin(2);
        int[] targets = {-5, -5, 5, 5};
        int[] three = {1, 2, 3, 3};
        int[] two = {1, 1, 2, 2};
        for (int i = 0; i < 4; i++) {
            x.add(targets[i]);
            x.put(i, fine, three[i]);
            x.put(i, coarse, two[i]);
        }
        x.cut(fine, true, 4);
        x.cut(coarse, true, 2);
        x.shape(1, 1, 0);
        return x;
    }

    /** "Of all with the greatest gain": a later column and a later edge can have it. */
    private static void greaterGainOfALaterColumn() {
        ResidualTrees x = twoColumns(0, 1);
        x.put(1, 0, 1);
        x.put(2, 0, 2);
        x.train(1);
        // Column 0 has 1 1 2 3 now: 12 | 34, too, but a lesser gain by its second edge.
        Check.same("column 0 still has the best", x.node(0, 0, 0), 0);
        x.drop(0);
        x.put(2, 0, 1);
        x.train(1);
        Check.same("column 1 has the best", x.node(0, 0, 0), 1);
        isSplit("column 1", x, 0, 2, 1, 2);
    }

    /** "the first one in this order is taken: column, k, left before right": the column comes before k. */
    private static void alikeGainsByColumn() {
        ResidualTrees x = twoColumns(0, 1);
        x.train(1);
        Check.same("column 0, second edge", x.node(0, 0, 0), 0);
        isSplit("column 0, second edge", x, 0, 3, 1, 2);
        ResidualTrees y = twoColumns(1, 0);
        y.train(1);
        Check.same("column 0, first edge", y.node(0, 0, 0), 0);
        isSplit("column 0, first edge", y, 0, 2, 1, 2);
        y.sample(-1, 2);
        y.drop(0);
        y.train(1);
        Check.same("column 1 alone", y.node(0, 0, 0), 1);
        isSplit("column 1, second edge", y, 0, 3, 1, 2);
    }

    private static void alikeGainsByEdge() {
        // 6 | 0 6 and 6 0 | 6 have the same gain: 36 + 18 - 48.
        ResidualTrees x = table(new int[] {6, 0, 6}, 1, 2, 3);
        x.cut(0, true, 3);
        x.shape(1, 1, 0);
        x.train(1);
        isSplit("the first edge", x, 0, 2, 1, 1);
        Check.written("its gain", x, x.tell(0, 0), "6");
    }

    private static void alikeGainsByMissing() {
        // -4 0 | 4 and -4 | 4 0 have the same gain: 8 + 16.
        ResidualTrees x = table(new int[] {-4, 4, 0}, 1, 2, MISSING);
        x.shape(1, 1, 0);
        x.cut(0, true, 2);
        x.train(1);
        isSplit("numbers: left before right", x, 0, 2, 1, 2);
        x.kinds(0, true);
        x.drop(0);
        x.train(1);
        isSplit("kinds: left before right", x, 0, 1 << 1, 1, 2);
        Check.written("its gain", x, x.tell(0, 0), "24");
    }

    /** k comes before left and right: -9 | 0 9 0 by the first edge and -9 0 0 | 9 by the second have 81 + 27. */
    private static void edgeBeforeLeftOrRight() {
        ResidualTrees x = table(new int[] {-9, 0, 9, 0}, 1, 2, 3, MISSING);
        x.cut(0, true, 3);
        x.shape(1, 1, 0);
        x.train(1);
        isSplit("numbers: the first edge, missing ones to the right", x, 0, 2, 0, 1);
        Check.written("its gain", x, x.tell(0, 0), "108");
        x.kinds(0, true);
        x.drop(0);
        x.train(1);
        isSplit("kinds: the first kind, missing ones to the right", x, 0, 1 << 1, 0, 1);
    }

    /**
     * Column 0 parts row 0 from the others, column 1 row 2. Fifteen trees for row 3 alone leave e = 1 / 16 ^ 15 of its 1,
     * and 10 + e, e, -10 + e of the others. With weight 1 the gains of the two columns differ by 20 e / 3 then.
     */
    private static ResidualTrees nextToAlike(int sign, int upper) {
        ResidualTrees x = new ResidualTrees();
        x.begin(2);
        for (int i = 0; i < 3; i++) {
            x.add(1 + sign * (10 - 10 * i));
            x.put(i, 0, i == 0 ? 0 : 1);
            x.put(i, 1, i == 2 ? 0 : 1);
        }
        x.add(1);
        x.cut(0, false, 2);
        x.cut(1, false, 2);
        x.sample(8, 3);
        x.rate(upper, 16);
        x.train(15);
        x.sample(7, 3);
        x.shape(1, 1, 1);
        x.train(1);
        return x;
    }

    private static void gainsThatDifferByNextToNothing() {
        ResidualTrees x = nextToAlike(1, 15);
        Check.same("column 1 is better by next to nothing", x.node(15, 0, 0), 1);
        Check.written("what is left", x, x.residual(3, 15), "1/" + BigInteger.TWO.pow(60));
        Check.same("column 0 is better by next to nothing", nextToAlike(-1, 15).node(15, 0, 0), 0);
        Check.same("both are alike", nextToAlike(1, 16).node(15, 0, 0), 0);
    }

    /** "The node is split by it if .. that gain is above 0." */
    private static void gainOfZero() {
        ResidualTrees x = table(new int[] {0, 0, 0}, 1, 2, MISSING);
        x.cut(0, true, 2);
        x.train(1);
        Check.same("residuals of 0", x.nodes(0), 1);
        ResidualTrees y = table(new int[] {5, 3, 4, 4, 4}, 1, 1, 2, 2, 2);
        y.cut(0, true, 5);
        y.shape(4, 1, 0);
        y.train(1);
        Check.same("sides with the same mean", y.nodes(0), 1);
        Check.written("its value", y, y.tell(0, 0), "2");
        y.kinds(0, true);
        y.train(1);
        Check.same("the same by kinds", y.nodes(1), 1);
    }

    /** 1 / 2 + 14 * 14 / 8 - 15 * 15 / 9 is 0. */
    private static void gainOfZeroByWeight() {
        ResidualTrees x = table(new int[] {1, 2, 2, 2, 2, 2, 2, 2}, 1, 2, 2, 2, 2, 2, 2, 2);
        x.cut(0, false, 2);
        x.shape(1, 1, 1);
        x.train(1);
        Check.same("a gain of 0", x.nodes(0), 1);
        x.drop(0);
        x.target(0, 2);
        x.train(1);
        // 4 / 2 + 196 / 8 - 256 / 9
        Check.same("a gain below 0", x.nodes(0), 1);
        x.drop(0);
        x.target(0, 0);
        x.train(1);
        Check.same("a gain above 0", x.nodes(0), 3);
        Check.written("196 / 8 - 196 / 9", x, x.tell(0, 0), "49/18");
    }

    /** Of two rows with 1 and 0 each round leaves a sixteenth; the last gain is 1 / 2 ^ 121, and still above 0. */
    private static void gainNextToZero() {
        ResidualTrees x = table(new int[] {1, 0}, 1, 2);
        x.cut(0, true, 2);
        x.rate(15, 16);
        x.train(16);
        Check.same("the last tree is split", x.nodes(15), 3);
        Check.written("its gain", x, x.tell(15, 0), "1/" + BigInteger.TWO.pow(121));
    }

    /** "if its depth (0 of the root) is below DEPTH" */
    private static void depthsOneToFour() {
        for (int depth = 1; depth <= 4; depth++) {
            ResidualTrees x = table(new int[] {1, 3, 9, 27, 81, 243, 729}, 1, 2, 3, 4, 5, 6, 7);
            x.cut(0, true, 7);
            x.shape(depth, 1, 0);
            x.train(1);
            // Each split parts the greatest one from the others.
            Check.same("nodes with depth " + depth, x.nodes(0), 1 + 2 * depth);
            Check.same("rows of the deepest node", x.node(0, depth, 5), 7 - depth);
            Check.same("its depth", x.node(0, depth, 6), depth);
            Check.same("it is a leaf", x.node(0, depth, 0), NONE);
        }
    }

    /** "The value of a leaf is p G / (q (n + w)).": with the greatest n, w and q. */
    private static void leafOfAll() {
        ResidualTrees x = new ResidualTrees();
        addRows(x, 48, 0, 0);
        x.target(47, 1);
        x.shape(4, 24, 20);
        x.rate(1, 16);
        x.train(1);
        Check.written("1 / (16 * 68)", x, x.tell(0, 0), "1/1088");
        Check.same("1088 has eleven bits", x.count(3), 11);
        x.rate(16, 16);
        x.drop(0);
        x.train(1);
        Check.written("1 / 68", x, x.tell(0, 0), "1/68");
        x.shape(1, 1, 0);
        x.drop(0);
        x.train(1);
        Check.written("1 / 48", x, x.tell(0, 0), "1/48");
    }

    /** Rounds go on when there is nothing left to take away: they add leaves of 0. */
    private static void roundsWithNothingLeft() {
        ResidualTrees x = table(new int[] {3, -3}, 1, 2);
        x.cut(0, true, 2);
        x.rate(1, 1);
        Check.same("train(16)", x.train(16), 16);
        Check.same("the first tree", x.nodes(0), 3);
        for (int tree = 1; tree < 16; tree++) {
            Check.same("nodes of tree " + tree, x.nodes(tree), 1);
            Check.written("value of tree " + tree, x, x.tell(tree, 0), "0");
        }
        Check.same("the fewest trees are the best", x.best(-1), 1);
        Check.same("uses of the first tree alone", x.uses(0), 1);
    }

    /** "A round has all residuals by the trees before it": of rows as they are now, also of those that came later. */
    private static void roundsGoByTheRowsOfNow() {
        ResidualTrees x = table(new int[] {0, 8}, 1, 2);
        x.cut(0, true, 2);
        x.rate(1, 1);
        x.train(1);
        x.target(0, 6);
        x.put(1, 0, 1);
        addRows(x, 1, 4, 2);
        // By the tree 0 is on the left, 8 on the right: 6, 8 and -4 are left.
        x.shape(1, 1, 0);
        x.train(1);
        Check.same("rows of the second tree", x.node(1, 0, 5), 3);
        Check.written("its left value", x, x.tell(1, 1), "7");
        Check.written("its right value", x, x.tell(1, 2), "-4");
        Check.written("row 0", x, x.residual(0, 2), "-1");
        Check.written("row 1", x, x.residual(1, 2), "1");
        Check.written("row 2", x, x.residual(2, 2), "0");
    }

    /** Rows that a node had, values and gains are those of its round, whatever comes behind it. */
    private static void treesStayAsTheyWere() {
        ResidualTrees x = table(new int[] {0, 8}, 1, 2);
        x.cut(0, true, 2);
        x.train(1);
        x.target(0, 1000);
        x.put(0, 0, MISSING);
        x.put(1, 0, MISSING);
        addRows(x, 10, -1000, 7);
        x.cut(0, true, 2);
        x.kinds(0, true);
        x.sample(0, 0);
        x.shape(4, 24, 20);
        x.rate(1, 16);
        Check.same("nodes", x.nodes(0), 3);
        isSplit("the root", x, 0, 2, 1, 1);
        Check.same("its rows", x.node(0, 0, 5), 2);
        Check.same("its column was one of numbers", x.node(0, 0, 7), 0);
        Check.same("uses", x.uses(0), 1);
        Check.written("its gain: 64 - 64 / 2", x, x.tell(0, 0), "32");
        Check.written("its left value", x, x.tell(0, 1), "0");
        Check.written("its right value", x, x.tell(0, 2), "4");
    }
}
