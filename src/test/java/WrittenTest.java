import java.math.BigInteger;

/** Promises 19 to 25: what is written, the question, and the least error. All answers were worked out by hand. */
public final class WrittenTest {
    private static final int MISSING = ResidualTrees.MISSING;
    private static final int NONE = ResidualTrees.NONE;

    public static void main(String[] args) {
        tell();
        residual();
        ask();
        predict();
        error();
        best();
        byteAt();
        onlyWritingChangesTheOut();
        longNumbers();
        sumsWithNineZeros();
        residualWithNineZeros();
        Check.end();
    }

    /** Two rows with the values 1 and 2, and one edge between them. */
    private static ResidualTrees pair(int low, int high) {
        ResidualTrees x = new ResidualTrees();
        x.add(low);
        x.add(high);
        x.put(0, 0, 1);
        x.put(1, 0, 2);
        x.cut(0, true, 2);
        return x;
    }

    private static void tell() {
        ResidualTrees x = pair(-3, 10);
        x.shape(1, 1, 1);
        x.rate(2, 3);
        x.train(2);
        // 9 / 2 + 100 / 2 - 49 / 3
        Check.written("a gain", x, x.tell(0, 0), "229/6");
        Check.written("a value below 0", x, x.tell(0, 1), "-1");
        Check.written("a value above 0", x, x.tell(0, 2), "10/3");
        // -2 and 20 / 3: 4 / 2 + 400 / 18 - 196 / 27
        Check.written("the next gain", x, x.tell(1, 0), "458/27");
        Check.written("the next value", x, x.tell(1, 2), "20/9");
        Check.badArgument("tell(2, 0)", () -> x.tell(2, 0));
        Check.badArgument("tell(-1, 0)", () -> x.tell(-1, 0));
        Check.badArgument("tell(0, 3)", () -> x.tell(0, 3));
        Check.badArgument("tell(0, -1)", () -> x.tell(0, -1));
        Check.written("refused calls write nothing", x, 4, "20/9");
        x.shape(4, 24, 20);
        x.rate(1, 16);
        x.target(0, 999);
        x.put(1, 0, MISSING);
        Check.written("a tree goes by the plan it was grown by", x, x.tell(0, 2), "10/3");
        Check.written("a gain stays as it was", x, x.tell(1, 0), "458/27");
    }

    private static void residual() {
        ResidualTrees x = pair(-3, 10);
        Check.written("by none", x, x.residual(0, 0), "-3");
        x.train(2);
        Check.written("by 0", x, x.residual(0, 0), "-3");
        Check.written("by 1", x, x.residual(0, 1), "-3/2");
        Check.written("by 2", x, x.residual(0, 2), "-3/4");
        Check.written("by 2, row 1", x, x.residual(1, 2), "5/2");
        x.target(1, 7);
        Check.written("with another target", x, x.residual(1, 2), "-1/2");
        x.put(1, 0, -5);
        Check.written("with another value", x, x.residual(1, 2), "37/4");
        x.add(0);
        Check.written("of a row that came later", x, x.residual(2, 1), "3/2");
        Check.badArgument("row 3", () -> x.residual(3, 0));
        Check.badArgument("row -1", () -> x.residual(-1, 0));
        Check.badArgument("trees 3", () -> x.residual(0, 3));
        Check.badArgument("trees -1", () -> x.residual(0, -1));
        Check.written("refused calls write nothing", x, 3, "3/2");
        x.put(1, 0, 2);
        x.target(1, 10);
        x.rate(1, 1);
        x.train(1);
        x.target(1, 10);
        Check.written("nothing is left", x, x.residual(1, 3), "0");
    }

    private static void ask() {
        ResidualTrees x = pair(0, 8);
        x.train(1);
        Check.same("ask", x.ask(0, 1000000), MISSING);
        Check.same("ask", x.ask(0, -1000000), 1000000);
        Check.badArgument("ask, value 1000001", () -> x.ask(0, 1000001));
        Check.badArgument("ask, value -1000001", () -> x.ask(0, -1000001));
        Check.badArgument("ask, column 1", () -> x.ask(1, 0));
        Check.badArgument("ask, column -1", () -> x.ask(-1, 0));
        Check.same("ask of missing", x.ask(0, MISSING), -1000000);
        x.kinds(0, true);
        Check.same("the question is of numbers in kinds, too", x.ask(0, 500), MISSING);
        Check.same("it stays", x.ask(0, 2), 500);
        x.train(1);
        Check.same("training leaves it", x.ask(0, 2), 2);
        Check.same("no row has changed", x.put(0, 0, 1), 1);
    }

    private static void predict() {
        ResidualTrees x = pair(-3, 10);
        Check.written("by none", x, x.predict(0), "0");
        x.train(2);
        Check.written("by 0", x, x.predict(0), "0");
        Check.written("missing, by 2", x, x.predict(2), "-9/4");
        x.ask(0, 1);
        Check.written("below the edge", x, x.predict(1), "-3/2");
        x.ask(0, 2);
        Check.written("at the edge", x, x.predict(1), "5");
        Check.written("at the edge, by 2", x, x.predict(2), "15/2");
        Check.badArgument("trees 3", () -> x.predict(3));
        Check.badArgument("trees -1", () -> x.predict(-1));
        Check.written("refused calls write nothing", x, 4, "15/2");
    }

    private static void error() {
        ResidualTrees x = pair(-3, 10);
        Check.written("by none", x, x.error(3, 0), "109");
        x.train(2);
        Check.written("by 0", x, x.error(-1, 0), "109");
        Check.written("by 1", x, x.error(3, 1), "109/4");
        Check.written("by 2", x, x.error(3, 2), "109/16");
        Check.written("row 0 by 2", x, x.error(1, 2), "9/16");
        Check.written("row 1 by 2", x, x.error(2, 2), "25/4");
        Check.written("no row", x, x.error(0, 2), "0");
        Check.written("rows that are not there", x, x.error(-4, 2), "0");
        x.sample(1, 1);
        Check.written("the sample does not matter", x, x.error(2, 2), "25/4");
        Check.badArgument("trees 3", () -> x.error(1, 3));
        Check.badArgument("trees -1", () -> x.error(1, -1));
        Check.written("refused calls write nothing", x, 4, "25/4");
        ResidualTrees y = new ResidualTrees();
        for (int i = 0; i < 48; i++) {
            y.add(i % 2 == 0 ? 1000 : -1000);
        }
        Check.written("48 rows", y, y.error(-1, 0), "48000000");
        Check.written("the last row", y, y.error(1L << 47, 0), "1000000");
        Check.written("behind the last row", y, y.error(1L << 48, 0), "0");
    }

    private static void best() {
        ResidualTrees x = pair(-4, 8);
        Check.same("without trees", x.best(3), 0);
        x.train(3);
        Check.same("each tree is better", x.best(-1), 3);
        x.sample(0, 0);
        Check.same("the sample does not matter", x.best(-1), 3);
        Check.same("no row", x.best(0), 0);
        Check.same("rows that are not there", x.best(-4), 0);
        x.target(0, -1);
        // What is left of row 0: -1, 1, 2, 5 / 2.
        Check.same("the fewest of those that are alike", x.best(1), 0);
        x.target(0, -2);
        // -2, 0, 1, 3 / 2
        Check.same("in between", x.best(1), 1);
        x.target(0, -3);
        // -3, -1, 0, 1 / 2
        Check.same("in between", x.best(1), 2);
        x.residual(1, 0);
        x.best(1);
        Check.written("best writes nothing", x, 1, "8");
        bestOfThirds();
    }

    /** The sums have other lower parts by each number of trees: 1, 4 / 9, 16 / 81, .. */
    private static void bestOfThirds() {
        ResidualTrees x = pair(1, -1);
        x.rate(1, 3);
        for (int trees = 1; trees <= 16; trees++) {
            x.train(1);
            Check.same("each tree is better", x.best(3), trees);
            Check.same("for one row, too", x.best(2), trees);
        }
        x.target(1, 0);
        // What is left of row 1 is 0, then 1 / 3, 5 / 9, 19 / 27, ..
        Check.same("each tree is worse", x.best(2), 0);
    }

    private static void byteAt() {
        ResidualTrees x = pair(-3, 10);
        Check.same("byteAt(0) of an empty out", x.byteAt(0), NONE);
        x.train(1);
        x.residual(0, 1);
        Check.same("byteAt(0)", x.byteAt(0), '-');
        Check.same("byteAt(1)", x.byteAt(1), '3');
        Check.same("byteAt(2)", x.byteAt(2), '/');
        Check.same("byteAt(3)", x.byteAt(3), '2');
        Check.same("byteAt(4)", x.byteAt(4), NONE);
        Check.same("byteAt(-1)", x.byteAt(-1), NONE);
        Check.same("byteAt(MISSING)", x.byteAt(MISSING), NONE);
        Check.same("byteAt of the greatest int", x.byteAt(Integer.MAX_VALUE), NONE);
        x.residual(1, 1);
        Check.same("a shorter out, byteAt(0)", x.byteAt(0), '5');
        Check.same("a shorter out, byteAt(1)", x.byteAt(1), NONE);
    }

    private static void onlyWritingChangesTheOut() {
        ResidualTrees x = pair(-3, 10);
        x.train(2);
        x.residual(0, 2);
        x.add(1);
        x.put(2, 0, 5);
        x.target(2, 6);
        x.cut(0, false, 3);
        x.kinds(0, false);
        x.shape(1, 1, 0);
        x.rate(1, 3);
        x.sample(7, 1);
        x.train(1);
        x.drop(2);
        x.ask(0, 4);
        x.best(7);
        x.count(3);
        Check.written("the out is as it was", x, 4, "-3/4");
    }

    /** With one row, weight 12 and rate 1 / 7 each round takes away one of 91 parts. */
    private static void longNumbers() {
        ResidualTrees x = new ResidualTrees();
        x.add(1);
        x.shape(1, 1, 12);
        x.rate(1, 7);
        x.train(16);
        BigInteger upper = BigInteger.valueOf(90).pow(16);
        BigInteger lower = BigInteger.valueOf(91).pow(16);
        Check.written("residual", x, x.residual(0, 16), upper + "/" + lower);
        Check.written("error", x, x.error(1, 16), upper.pow(2) + "/" + lower.pow(2));
        Check.same("count(3)", x.count(3), lower.bitLength());
        x.target(0, 0);
        Check.written("residual of a target of 0", x, x.residual(0, 16), upper.subtract(lower) + "/" + lower);
    }

    /** Each of ten rows has (10 / 11) ^ 4 left, so that the tenth square fills up nine digits. */
    private static void sumsWithNineZeros() {
        ResidualTrees x = new ResidualTrees();
        for (int i = 0; i < 10; i++) {
            x.add(1);
        }
        x.rate(1, 11);
        x.train(4);
        Check.written("nine rows", x, x.error(511, 4), "900000000/214358881");
        Check.written("ten rows", x, x.error(1023, 4), "1000000000/214358881");
    }

    /** A row has nothing left by nine trees; then the tenth, by another column, takes away a 1 with nine zeros. */
    private static void residualWithNineZeros() {
        ResidualTrees x = new ResidualTrees();
        x.begin(2);
        int[] targets = {1, 0, -1};
        for (int i = 0; i < 3; i++) {
            x.add(targets[i]);
            x.put(i, 0, i);
            x.put(i, 1, i);
        }
        x.kinds(0, true);
        x.kinds(1, true);
        x.add(0);
        x.put(3, 0, 1);
        x.put(3, 1, 0);
        x.rate(1, 11);
        x.sample(7, 1);
        x.train(9);
        x.sample(7, 2);
        x.train(1);
        Check.written("by nine", x, x.residual(3, 9), "0");
        Check.written("by ten", x, x.residual(3, 10), "-1000000000/25937424601");
        x.ask(0, 1);
        x.ask(1, 0);
        Check.written("the prediction", x, x.predict(10), "1000000000/25937424601");
        Check.written("row 0 by ten", x, x.residual(0, 10), "10000000000/25937424601");
    }
}
