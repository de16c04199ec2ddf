import java.math.BigInteger;

/**
 * The boundary cases that the document's section "Terms" names for tables, columns, values, edges and what is written,
 * each sentence with a test of its own. All answers were worked out by hand.
 */
public final class TermsTest {
    private static final int MISSING = ResidualTrees.MISSING;
    private static final int NONE = ResidualTrees.NONE;
    private static final int MOST = 1000000;

    public static void main(String[] args) {
        oneToSixColumns();
        atMost48Rows();
        targets();
        valuesOfNumbers();
        valuesOfKinds();
        numbersAtFirst();
        noEdgesAtFirst();
        atMostElevenEdges();
        edgesRise();
        binsCountEdgesThatAreNotAbove();
        cutByTheValuesOfThatTime();
        missingValuesAreNotCut();
        noValuesNoEdges();
        widthCutsOff();
        widthOfAllNumbers();
        countCutsOff();
        edgesThatAreAlike();
        edgesThatAreLow();
        binOfAKindIsItself();
        kindsOrNumbersKeepTheirValues();
        newRowsAreMissingEverywhere();
        nothingBeyondTheLastTree();
        nothingBeyondTheLastNode();
        leastTerms();
        leastTermsOfSquares();
        writtenForms();
        everyWritingCallHasTheOut();
        commonOfAllRows();
        commonWithoutRows();
        commonIsTheLeast();
        Check.end();
    }

    private static ResidualTrees withValues(int... values) {
        ResidualTrees x = new ResidualTrees();
        for (int i = 0; i < values.length; i++) {
            x.add(0);
            x.put(i, 0, values[i]);
        }
        return x;
    }

    private static void hasEdges(String when, ResidualTrees x, int count, int... due) {
        Check.same(when + " answers", count, due.length);
        for (int i = 0; i < due.length; i++) {
            Check.same(when + ", edge " + i, x.edge(0, i), due[i]);
        }
        Check.badArgument(when + ", edge behind the last", () -> x.edge(0, due.length));
    }

    /** "A TABLE has 1 to 6 COLUMNS": the last one is as good as the first, and there is none behind it. */
    private static void oneToSixColumns() {
        for (int columns = 1; columns <= 6; columns++) {
            ResidualTrees x = new ResidualTrees();
            x.begin(columns);
            int last = columns - 1;
            String of = " in column " + last + " of " + columns;
            x.add(0);
            x.add(10);
            Check.same("put" + of, x.put(0, last, 1), MISSING);
            x.put(1, last, 2);
            Check.same("cut" + of, x.cut(last, true, 2), 1);
            Check.same("edge" + of, x.edge(last, 0), 2);
            Check.same("bin" + of, x.bin(last, 2), 1);
            Check.same("ask" + of, x.ask(last, 2), MISSING);
            Check.same("sample" + of, x.sample(-1, 1 << last), 2);
            x.train(1);
            Check.same("split" + of, x.node(0, 0, 0), last);
            Check.same("uses" + of, x.uses(last), 1);
            Check.written("predict" + of, x, x.predict(1), "5");
            Check.same("kinds" + of, x.kinds(last, true) ? 1 : 0, 0);
            hasNoColumn(x, columns);
            hasNoColumn(x, -1);
            Check.same("sample of the column behind it", x.sample(-1, 1 << columns), 2);
            Check.badState("train by the column behind it", () -> x.train(1));
        }
    }

    private static void hasNoColumn(ResidualTrees x, int c) {
        Check.badArgument("put, column " + c, () -> x.put(0, c, 0));
        Check.badArgument("kinds, column " + c, () -> x.kinds(c, true));
        Check.badArgument("cut, column " + c, () -> x.cut(c, true, 2));
        Check.badArgument("edge, column " + c, () -> x.edge(c, 0));
        Check.badArgument("bin, column " + c, () -> x.bin(c, 0));
        Check.badArgument("uses, column " + c, () -> x.uses(c));
        Check.badArgument("ask, column " + c, () -> x.ask(c, 0));
    }

    /** "at most 48 ROWS": the 48th is as good as the first, and there is none behind it. */
    private static void atMost48Rows() {
        ResidualTrees x = new ResidualTrees();
        for (int rows = 1; rows <= 48; rows++) {
            int last = rows - 1;
            Check.same("add", x.add(rows), last);
            Check.same("put of row " + last, x.put(last, 0, 0), MISSING);
            if (rows <= 2 || rows >= 47) {
                hasNoRow(x, rows);
            }
        }
        hasNoRow(x, -1);
        Check.badState("a 49th row", () -> x.add(0));
        Check.same("rows", x.count(1), 48);
        Check.same("target of row 47", x.target(47, 99), 48);
        x.put(47, 0, 1);
        x.cut(0, false, 2);
        Check.same("sample of row 47", x.sample(1L << 47, 1), 1);
        x.rate(1, 1);
        x.train(1);
        Check.written("a tree for row 47 alone", x, x.tell(0, 0), "99");
        Check.written("row 47 by it", x, x.residual(47, 1), "0");
        Check.written("row 46 by it", x, x.residual(46, 1), "-52");
        Check.written("error of row 47", x, x.error(1L << 47, 0), "9801");
        Check.same("best for row 47", x.best(1L << 47), 1);
        Check.same("best for row 46", x.best(1L << 46), 0);
        x.drop(0);
        Check.same("sample of all", x.sample(-1, 1), 48);
        x.train(1);
        Check.same("all rows are in the root", x.node(0, 0, 5), 48);
        Check.same("row 47 is alone on the right", x.node(0, 2, 5), 1);
    }

    private static void hasNoRow(ResidualTrees x, int row) {
        Check.badArgument("put, row " + row, () -> x.put(row, 0, 0));
        Check.badArgument("target, row " + row, () -> x.target(row, 0));
        Check.badArgument("residual, row " + row, () -> x.residual(row, 0));
        if (row >= 0) {
            Check.written("error of row " + row, x, x.error(1L << row, 0), "0");
        }
    }

    /** "A row has a TARGET, -1,000 .. 1,000" */
    private static void targets() {
        ResidualTrees x = new ResidualTrees();
        x.add(1000);
        x.add(-1000);
        Check.written("the greatest target", x, x.residual(0, 0), "1000");
        Check.written("the least target", x, x.residual(1, 0), "-1000");
        Check.badArgument("add(1001)", () -> x.add(1001));
        Check.badArgument("add(-1001)", () -> x.add(-1001));
        Check.same("target to the least", x.target(0, -1000), 1000);
        Check.same("target to the greatest", x.target(1, 1000), -1000);
        Check.badArgument("target to 1001", () -> x.target(0, 1001));
        Check.badArgument("target to -1001", () -> x.target(1, -1001));
        Check.written("row 0", x, x.residual(0, 0), "-1000");
        Check.written("row 1", x, x.residual(1, 0), "1000");
        Check.same("rows", x.count(1), 2);
    }

    /** "a VALUE in each column: -1,000,000 .. 1,000,000, or MISSING" */
    private static void valuesOfNumbers() {
        ResidualTrees x = new ResidualTrees();
        x.add(0);
        Check.same("the greatest", x.put(0, 0, MOST), MISSING);
        Check.badArgument("one more", () -> x.put(0, 0, MOST + 1));
        Check.same("the least", x.put(0, 0, -MOST), MOST);
        Check.badArgument("one less", () -> x.put(0, 0, -MOST - 1));
        Check.badArgument("one above MISSING", () -> x.put(0, 0, MISSING + 1));
        Check.same("missing", x.put(0, 0, MISSING), -MOST);
        Check.same("still missing", x.put(0, 0, 0), MISSING);
    }

    /** "of KINDS: its values are then 0 .. 11, or MISSING" */
    private static void valuesOfKinds() {
        ResidualTrees x = new ResidualTrees();
        x.kinds(0, true);
        x.add(0);
        Check.same("kind 0", x.put(0, 0, 0), MISSING);
        Check.badArgument("kind -1", () -> x.put(0, 0, -1));
        Check.same("kind 11", x.put(0, 0, 11), 0);
        Check.badArgument("kind 12", () -> x.put(0, 0, 12));
        Check.same("missing", x.put(0, 0, MISSING), 11);
        x.kinds(0, false);
        Check.same("12 is a number", x.put(0, 0, 12), MISSING);
        Check.badState("it can't be one of kinds with a 12", () -> x.kinds(0, true));
        x.put(0, 0, -1);
        Check.badState("nor with a -1", () -> x.kinds(0, true));
        x.put(0, 0, 11);
        Check.same("with an 11 it can", x.kinds(0, true) ? 1 : 0, 0);
        Check.same("it is one of kinds", x.kinds(0, false) ? 1 : 0, 1);
        x.put(0, 0, 0);
        Check.same("with a 0 it can", x.kinds(0, true) ? 1 : 0, 0);
        x.kinds(0, false);
        x.put(0, 0, MISSING);
        Check.same("with a missing one it can", x.kinds(0, true) ? 1 : 0, 0);
    }

    /** "A column is one of NUMBERS (at first)" */
    private static void numbersAtFirst() {
        ResidualTrees x = new ResidualTrees();
        for (int columns = 6; columns >= 1; columns--) {
            x.begin(columns);
            for (int c = 0; c < columns; c++) {
                Check.same("a column at first", x.kinds(c, true) ? 1 : 0, 0);
            }
        }
    }

    /** "A column of numbers has EDGES .. (none at first)" */
    private static void noEdgesAtFirst() {
        ResidualTrees x = withValues(1, 2, 3);
        Check.badArgument("edge 0 at first", () -> x.edge(0, 0));
        Check.same("a bin without edges", x.bin(0, MOST), 0);
        x.train(1);
        Check.same("no split without edges", x.nodes(0), 1);
    }

    /** "EDGES, at most 11": with n = 12 and values enough there are so many. */
    private static void atMostElevenEdges() {
        ResidualTrees x = withValues(0, 1, 2, 3, 4, 5, 6, 7, 8, 9, 10, 11);
        hasEdges("12 values by count in 12", x, x.cut(0, true, 12), 1, 2, 3, 4, 5, 6, 7, 8, 9, 10, 11);
        hasEdges("12 values by width in 12", x, x.cut(0, false, 12), 1, 2, 3, 4, 5, 6, 7, 8, 9, 10, 11);
        Check.same("the last bin", x.bin(0, 11), 11);
        Check.badArgument("in 13 by count", () -> x.cut(0, true, 13));
        Check.badArgument("in 13 by width", () -> x.cut(0, false, 13));
        hasEdges("by count in 2", x, x.cut(0, true, 2), 6);
        hasEdges("by width in 2", x, x.cut(0, false, 2), 6);
        Check.badArgument("in 1 by count", () -> x.cut(0, true, 1));
        Check.badArgument("in 1 by width", () -> x.cut(0, false, 1));
        hasEdges("the edges stay", x, 1, 6);
    }

    /** "rising", whatever the order of the rows is */
    private static void edgesRise() {
        ResidualTrees x = withValues(9, -9, 3, MISSING, -3, 0, 12, -12);
        hasEdges("by count", x, x.cut(0, true, 12), -9, -3, 0, 3, 9, 12);
    }

    /** "the bin of a value is how many of them are not above it" */
    private static void binsCountEdgesThatAreNotAbove() {
        ResidualTrees x = withValues(-MOST, -5, 0, MOST);
        x.cut(0, true, 4);
        Check.same("the least", x.bin(0, -MOST), 0);
        Check.same("below the first edge", x.bin(0, -6), 0);
        Check.same("at the first edge", x.bin(0, -5), 1);
        Check.same("below the second edge", x.bin(0, -1), 1);
        Check.same("at the second edge", x.bin(0, 0), 2);
        Check.same("below the third edge", x.bin(0, MOST - 1), 2);
        Check.same("at the third edge", x.bin(0, MOST), 3);
    }

    /** "They are cut by the values that rows have there at that time" */
    private static void cutByTheValuesOfThatTime() {
        ResidualTrees x = withValues(1, 2);
        x.cut(0, true, 2);
        x.put(0, 0, 7);
        x.put(1, 0, 9);
        x.add(0);
        x.put(2, 0, 30);
        hasEdges("edges of another time", x, 1, 2);
        hasEdges("cut again", x, x.cut(0, true, 3), 9, 30);
        x.ask(0, -50);
        hasEdges("the question is no row", x, x.cut(0, false, 2), 19);
        ResidualTrees y = new ResidualTrees();
        y.begin(2);
        y.add(0);
        y.add(0);
        y.put(0, 1, 4);
        y.put(1, 1, 5);
        Check.same("values of another column", y.cut(0, true, 2), 0);
        Check.same("values of its own", y.cut(1, true, 2), 1);
        Check.badArgument("the other column's edges are its own", () -> y.edge(0, 0));
    }

    /** "missing ones do not count": neither as low nor among the m values. */
    private static void missingValuesAreNotCut() {
        ResidualTrees x = withValues(MISSING, 10, MISSING, 20, 30, MISSING, 40);
        hasEdges("by count in 2", x, x.cut(0, true, 2), 30);
        hasEdges("by count in 4", x, x.cut(0, true, 4), 20, 30, 40);
        hasEdges("by width in 2: 10 + 31 / 2", x, x.cut(0, false, 2), 25);
    }

    /** "with none there are no edges" */
    private static void noValuesNoEdges() {
        ResidualTrees x = new ResidualTrees();
        hasEdges("no rows, by count", x, x.cut(0, true, 2));
        hasEdges("no rows, by width", x, x.cut(0, false, 12));
        x.add(0);
        x.add(0);
        hasEdges("all missing, by count", x, x.cut(0, true, 12));
        hasEdges("all missing, by width", x, x.cut(0, false, 2));
        x.put(0, 0, 1);
        x.put(1, 0, 2);
        hasEdges("two values", x, x.cut(0, true, 2), 2);
        x.put(0, 0, MISSING);
        x.put(1, 0, MISSING);
        hasEdges("missing again, by count: the old edge goes", x, x.cut(0, true, 2));
        Check.same("bin", x.bin(0, 2), 0);
    }

    /** "by WIDTH: low + k (high - low + 1) / n (cut off), for k from 1 to n - 1" */
    private static void widthCutsOff() {
        ResidualTrees x = withValues(3, 4);
        hasEdges("3 4 in 2: 3 + 2 / 2", x, x.cut(0, false, 2), 4);
        hasEdges("3 4 in 3: 3 + 2 / 3, 3 + 4 / 3", x, x.cut(0, false, 3), 4);
        ResidualTrees y = withValues(0, 10);
        hasEdges("0 .. 10 in 2: 11 / 2", y, y.cut(0, false, 2), 5);
        hasEdges("0 .. 10 in 11", y, y.cut(0, false, 11), 1, 2, 3, 4, 5, 6, 7, 8, 9, 10);
        hasEdges("0 .. 10 in 12: 11 / 12 is low", y, y.cut(0, false, 12), 1, 2, 3, 4, 5, 6, 7, 8, 9, 10);
        ResidualTrees z = withValues(-7, -3);
        hasEdges("-7 .. -3 in 2: -7 + 5 / 2", z, z.cut(0, false, 2), -5);
        hasEdges("-7 .. -3 in 3: -7 + 5 / 3, -7 + 10 / 3", z, z.cut(0, false, 3), -6, -4);
        ResidualTrees across = withValues(-1, 1);
        hasEdges("-1 .. 1 in 2: -1 + 3 / 2", across, across.cut(0, false, 2), 0);
    }

    private static void widthOfAllNumbers() {
        ResidualTrees x = withValues(-MOST, MOST);
        hasEdges("all numbers in 2", x, x.cut(0, false, 2), 0);
        hasEdges("all numbers in 12", x, x.cut(0, false, 12), -833334, -666667, -500000, -333333, -166667, 0, 166667,
                333334, 500000, 666667, 833334);
        ResidualTrees high = withValues(MOST - 1, MOST);
        hasEdges("the two greatest", high, high.cut(0, false, 12), MOST);
        ResidualTrees low = withValues(-MOST, -MOST + 1);
        hasEdges("the two least", low, low.cut(0, false, 12), -MOST + 1);
    }

    /** "by COUNT: .. v(k m / n) (cut off), for k from 1 to n - 1" */
    private static void countCutsOff() {
        ResidualTrees x = withValues(50, 40, 30, 20, 10);
        hasEdges("five in 2: v(2)", x, x.cut(0, true, 2), 30);
        hasEdges("five in 3: v(1), v(3)", x, x.cut(0, true, 3), 20, 40);
        hasEdges("five in 4: v(1), v(2), v(3)", x, x.cut(0, true, 4), 20, 30, 40);
        hasEdges("five in 5", x, x.cut(0, true, 5), 20, 30, 40, 50);
        hasEdges("five in 12: v(0) twice, then all", x, x.cut(0, true, 12), 20, 30, 40, 50);
        ResidualTrees one = withValues(5);
        hasEdges("one value: v(0) alone", one, one.cut(0, true, 12));
        ResidualTrees full = new ResidualTrees();
        for (int row = 0; row < 48; row++) {
            full.add(0);
            full.put(row, 0, row * 10);
        }
        hasEdges("48 values in 12", full, full.cut(0, true, 12), 40, 80, 120, 160, 200, 240, 280, 320, 360, 400, 440);
        hasEdges("48 values in 11: v(4), v(8), v(13) ..", full, full.cut(0, true, 11), 40, 80, 130, 170, 210, 260, 300,
                340, 390, 430);
    }

    /** "Of edges that are alike one stays" */
    private static void edgesThatAreAlike() {
        ResidualTrees x = withValues(1, 2, 2, 2, 2, 3);
        hasEdges("by count: 2 2 2 2 3", x, x.cut(0, true, 6), 2, 3);
        ResidualTrees y = withValues(0, 1, 2);
        hasEdges("by width: 0 0 0 1 1 1 1 2 2 2 2", y, y.cut(0, false, 12), 1, 2);
        ResidualTrees z = withValues(0, 7, 7, 7, 7, 7, 7, 7, 7, 7, 7, 7);
        hasEdges("eleven alike", z, z.cut(0, true, 12), 7);
    }

    /** "and edges that are low go" */
    private static void edgesThatAreLow() {
        ResidualTrees x = withValues(4, 4, 4, 5);
        hasEdges("by count: 4 4 5", x, x.cut(0, true, 4), 5);
        hasEdges("by count: 4", x, x.cut(0, true, 2));
        hasEdges("by width: 4 + 2 / 4, 4 + 4 / 4, 4 + 6 / 4", x, x.cut(0, false, 4), 5);
        ResidualTrees y = withValues(-6, -6, -6);
        hasEdges("all alike, by count", y, y.cut(0, true, 3));
        hasEdges("all alike, by width", y, y.cut(0, false, 12));
        Check.same("bin without edges", y.bin(0, -6), 0);
    }

    /** "The bin of a kind is itself." */
    private static void binOfAKindIsItself() {
        ResidualTrees x = withValues(3, 5, 7);
        x.cut(0, true, 3);
        x.kinds(0, true);
        for (int kind = 0; kind <= 11; kind++) {
            Check.same("bin of kind " + kind, x.bin(0, kind), kind);
        }
    }

    /** "A column becomes one of kinds, or of numbers, and has no edges then": but all else stays. */
    private static void kindsOrNumbersKeepTheirValues() {
        ResidualTrees x = withValues(0, 11, MISSING);
        x.ask(0, 500);
        for (int i = 0; i < 2; i++) {
            for (boolean is : new boolean[] {false, true, true, false}) {
                x.kinds(0, is);
                Check.badArgument("no edges behind kinds(0, " + is + ")", () -> x.edge(0, 0));
                if (!is) {
                    Check.same("an edge", x.cut(0, true, 2), 1);
                }
            }
        }
        Check.same("the question", x.ask(0, 0), 500);
        Check.same("row 0", x.put(0, 0, 1), 0);
        Check.same("row 1", x.put(1, 0, 1), 11);
        Check.same("row 2", x.put(2, 0, 1), MISSING);
    }

    /** "One more row, all of it missing": also where a row of an older table had values. */
    private static void newRowsAreMissingEverywhere() {
        ResidualTrees x = new ResidualTrees();
        for (int i = 0; i < 2; i++) {
            x.begin(6);
            for (int row = 0; row < 3; row++) {
                x.add(row);
                for (int c = 0; c < 6; c++) {
                    Check.same("a new row in column " + c, x.put(row, c, row + c), MISSING);
                }
            }
        }
    }

    /** "Rows, columns, trees, nodes are told from 0 on; where there is none: illegal argument." Trees: */
    private static void nothingBeyondTheLastTree() {
        ResidualTrees x = new ResidualTrees();
        x.add(1);
        hasTrees(x, 0);
        x.train(1);
        hasTrees(x, 1);
        x.train(14);
        hasTrees(x, 15);
        x.train(1);
        hasTrees(x, 16);
        x.drop(2);
        hasTrees(x, 2);
        x.drop(0);
        hasTrees(x, 0);
    }

    private static void hasTrees(ResidualTrees x, int trees) {
        String of = " of " + trees + " trees";
        Check.same("count(2)" + of, x.count(2), trees);
        if (trees > 0) {
            Check.same("nodes" + of, x.nodes(trees - 1), 1);
            Check.same("node" + of, x.node(trees - 1, 0, 5), 1);
            Check.written("tell" + of, x, x.tell(trees - 1, 0), "1/" + (1 << trees));
        }
        Check.written("residual by all" + of, x, x.residual(0, trees), trees == 0 ? "1" : "1/" + (1 << trees));
        Check.written("predict by all" + of, x, x.predict(trees),
                trees == 0 ? "0" : (1 << trees) - 1 + "/" + (1 << trees));
        Check.same("drop of none" + of, x.drop(trees), 0);
        for (int none : new int[] {-1, trees}) {
            Check.badArgument("nodes(" + none + ")" + of, () -> x.nodes(none));
            Check.badArgument("node(" + none + ", 0, 0)" + of, () -> x.node(none, 0, 0));
            Check.badArgument("tell(" + none + ", 0)" + of, () -> x.tell(none, 0));
        }
        for (int by : new int[] {-1, trees + 1}) {
            Check.badArgument("drop(" + by + ")" + of, () -> x.drop(by));
            Check.badArgument("residual(0, " + by + ")" + of, () -> x.residual(0, by));
            Check.badArgument("predict(" + by + ")" + of, () -> x.predict(by));
            Check.badArgument("error(1, " + by + ")" + of, () -> x.error(1, by));
        }
    }

    /** The same of nodes, with one, three and seven of them, each tree in the other's place. */
    private static void nothingBeyondTheLastNode() {
        ResidualTrees x = new ResidualTrees();
        int[] targets = {0, 1, 10, 13};
        for (int i = 0; i < 4; i++) {
            x.add(targets[i]);
            x.put(i, 0, i);
        }
        x.cut(0, true, 4);
        x.train(1);
        hasNodes(x, 7);
        x.drop(0);
        x.shape(1, 1, 0);
        x.train(1);
        hasNodes(x, 3);
        x.drop(0);
        x.shape(1, 3, 0);
        x.train(1);
        hasNodes(x, 1);
    }

    private static void hasNodes(ResidualTrees x, int nodes) {
        Check.same("nodes", x.nodes(0), nodes);
        Check.same("the last node is a leaf", x.node(0, nodes - 1, 0), NONE);
        x.tell(0, nodes - 1);
        for (int none : new int[] {-1, nodes}) {
            Check.badArgument("node(0, " + none + ", 0) of " + nodes, () -> x.node(0, none, 0));
            Check.badArgument("tell(0, " + none + ") of " + nodes, () -> x.tell(0, none));
        }
    }

    /** "WRITTEN a fraction is, in least terms": for each number of rows and weight that divides a leaf's sum. */
    private static void leastTerms() {
        for (int under = 21; under <= 68; under++) {
            ResidualTrees x = new ResidualTrees();
            int rows = under - 20;
            for (int i = 0; i < rows; i++) {
                x.add(under);
            }
            x.shape(1, 1, 20);
            x.rate(1, 1);
            x.train(1);
            Check.written("a sum of " + rows + " * " + under + " over " + under, x, x.tell(0, 0), Integer.toString(rows));
            Check.written("what is left", x, x.residual(0, 1), "20");
            Check.same("COMMON is 1", x.count(3), 1);
        }
    }

    private static void leastTermsOfSquares() {
        ResidualTrees x = new ResidualTrees();
        x.add(6);
        x.add(3);
        x.shape(1, 1, 7);
        x.rate(1, 1);
        x.train(1);
        // 9 / 9 is taken away from both.
        Check.written("5 * 5 + 2 * 2", x, x.error(-1, 1), "29");
        x.target(0, 5);
        x.drop(0);
        x.train(1);
        // 8 / 9 is taken away from both: 37 / 9 and 19 / 9.
        Check.written("1369 / 81 + 361 / 81", x, x.error(-1, 1), "1730/81");
        Check.written("19 * 19 / 81", x, x.error(2, 1), "361/81");
        x.rate(1, 3);
        x.train(1);
        // 56 / 9 over 9, and a third of it: 56 / 243.
        Check.written("the second value", x, x.tell(1, 0), "56/243");
        BigInteger lower = BigInteger.valueOf(243).pow(2);
        Check.written("(1 * 999 - 56) / 243, squared", x, x.error(1, 2), (999 - 56) * (999 - 56) + "/" + lower);
    }

    /** "- if it is below 0, the digits of its upper part, and, if the lower one is not 1, / and its digits" */
    private static void writtenForms() {
        ResidualTrees x = new ResidualTrees();
        x.add(0);
        x.add(-1);
        x.add(1);
        x.add(-1000);
        x.add(1000);
        Check.written("0", x, x.residual(0, 0), "0");
        Check.written("-1", x, x.residual(1, 0), "-1");
        Check.written("1", x, x.residual(2, 0), "1");
        Check.written("-1000", x, x.residual(3, 0), "-1000");
        Check.written("1000", x, x.residual(4, 0), "1000");
        x.sample(2, 1);
        x.train(1);
        Check.written("-1 / 2", x, x.tell(0, 0), "-1/2");
        Check.written("-1 / 2", x, x.residual(1, 1), "-1/2");
        Check.written("1 / 2", x, x.residual(0, 1), "1/2");
        Check.written("a prediction below 0", x, x.predict(1), "-1/2");
        x.rate(1, 1);
        x.train(1);
        Check.written("nothing is left: no sign, no lower part", x, x.residual(1, 2), "0");
        x.train(1);
        Check.written("a leaf of 0", x, x.tell(2, 0), "0");
        Check.written("an error of 0", x, x.error(2, 2), "0");
        Check.written("a whole prediction", x, x.predict(3), "-1");
    }

    /** "this is in THE OUT then": the last writing call alone, and all of it. */
    private static void everyWritingCallHasTheOut() {
        ResidualTrees x = new ResidualTrees();
        Check.written("an empty out", x, 0, "");
        Check.written("predict", x, x.predict(0), "0");
        x.add(-1000);
        Check.written("residual, a longer one", x, x.residual(0, 0), "-1000");
        Check.written("error, another one", x, x.error(1, 0), "1000000");
        x.train(1);
        Check.written("tell, a shorter one", x, x.tell(0, 0), "-500");
        x.drop(0);
        Check.written("the out stays without trees", x, 4, "-500");
        x.begin(1);
        Check.written("an empty out again", x, 0, "");
    }

    /** "COMMON is the least number above 0 that makes the residuals of all rows whole": in the sample or not. */
    private static void commonOfAllRows() {
        ResidualTrees x = withValues(0, 1, 0);
        x.target(0, 1);
        x.cut(0, true, 3);
        x.sample(3, 1);
        x.train(1);
        // On the left 1 / 2 is taken away, on the right 0.
        Check.same("rows 0 and 2 are on the left", x.count(3), 2);
        x.put(0, 0, 1);
        Check.same("row 2 alone, out of the sample, is on the left", x.count(3), 2);
        x.put(2, 0, 1);
        Check.same("no row is on the left", x.count(3), 1);
        x.add(5);
        Check.same("a new row is missing, and goes to the left", x.count(3), 2);
    }

    /** "how many bits COMMON has now (1 without rows)" */
    private static void commonWithoutRows() {
        ResidualTrees x = new ResidualTrees();
        Check.same("without rows", x.count(3), 1);
        x.add(1);
        Check.same("a whole residual", x.count(3), 1);
        for (int trees = 1; trees <= 16; trees++) {
            x.train(1);
            Check.same("2 to the power of " + trees, x.count(3), trees + 1);
        }
        x.drop(3);
        Check.same("8", x.count(3), 4);
        x.begin(1);
        Check.same("without rows again", x.count(3), 1);
    }

    private static ResidualTrees ofKinds(int[] targets, int... kinds) {
        ResidualTrees x = withValues(kinds);
        for (int i = 0; i < targets.length; i++) {
            x.target(i, targets[i]);
        }
        x.kinds(0, true);
        x.shape(2, 1, 1);
        x.rate(1, 1);
        x.train(1);
        return x;
    }

    /** Lower parts 2, 3 and 1 need 6; 2, 3 and 5 need 30; 4 and 6 need 12. */
    private static void commonIsTheLeast() {
        ResidualTrees x = ofKinds(new int[] {1, 10, 10, 100, 100, 100, 100}, 0, 1, 1, 2, 2, 2, 2);
        Check.written("1 - 1 / 2", x, x.residual(0, 1), "1/2");
        Check.written("10 - 20 / 3", x, x.residual(1, 1), "10/3");
        Check.written("100 - 400 / 5", x, x.residual(3, 1), "20");
        Check.same("6 has three bits", x.count(3), 3);
        x.target(3, 99);
        x.drop(0);
        x.train(1);
        Check.written("99 - 399 / 5", x, x.residual(3, 1), "96/5");
        Check.same("30 has five bits", x.count(3), 5);
        ResidualTrees y = ofKinds(new int[] {1, 1, 1, 101, 101, 101, 101, 101}, 0, 0, 0, 1, 1, 1, 1, 1);
        Check.written("1 - 3 / 4", y, y.residual(0, 1), "1/4");
        Check.written("101 - 505 / 6", y, y.residual(3, 1), "101/6");
        Check.same("12 has four bits", y.count(3), 4);
    }
}
