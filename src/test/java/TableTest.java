/** Promises 1 to 9, and 16: the table, its columns, edges and bins. All answers were worked out by hand. */
public final class TableTest {
    private static final int MISSING = ResidualTrees.MISSING;
    private static final int NONE = ResidualTrees.NONE;

    public static void main(String[] args) {
        newObject();
        begin();
        beginForgetsPlan();
        add();
        put();
        target();
        kinds();
        cutByWidth();
        cutByCount();
        cutsThatFallTogether();
        cutRefuses();
        edge();
        bin();
        count();
        Check.end();
    }

    private static void isAsAtFirst(String when, ResidualTrees x, int columns) {
        Check.same(when + " count(0)", x.count(0), columns);
        Check.same(when + " count(1)", x.count(1), 0);
        Check.same(when + " count(2)", x.count(2), 0);
        Check.same(when + " count(3)", x.count(3), 1);
        Check.same(when + " count(4)", x.count(4), 0);
        Check.same(when + " byteAt(0)", x.byteAt(0), NONE);
        for (int c = 0; c < columns; c++) {
            Check.same(when + " ask", x.ask(c, MISSING), MISSING);
            Check.same(when + " uses", x.uses(c), 0);
            Check.same(when + " bin: no edges", x.bin(c, 1000000), 0);
            int column = c;
            Check.badArgument(when + " edge(c, 0)", () -> x.edge(column, 0));
        }
        Check.badArgument(when + " uses(columns)", () -> x.uses(columns));
        Check.badArgument(when + " nodes(0)", () -> x.nodes(0));
        Check.badArgument(when + " residual(0, 0)", () -> x.residual(0, 0));
        Check.badState(when + " train(1)", () -> x.train(1));
        Check.same(when + " best(-1)", x.best(-1), 0);
        Check.same(when + " count(4) in the end", x.count(4), 0);
    }

    private static void newObject() {
        Check.same("MISSING", ResidualTrees.MISSING, Integer.MIN_VALUE);
        Check.same("NONE", ResidualTrees.NONE, -1);
        isAsAtFirst("new", new ResidualTrees(), 1);
        ResidualTrees x = new ResidualTrees();
        Check.same("kinds at first", x.kinds(0, false) ? 1 : 0, 0);
        Check.same("sample at first", x.sample(-1, -1), 0);
    }

    private static void begin() {
        ResidualTrees x = new ResidualTrees();
        x.begin(3);
        x.add(5);
        x.add(7);
        x.put(0, 2, 4);
        x.put(1, 2, 8);
        x.cut(2, true, 2);
        x.kinds(1, true);
        x.ask(0, 3);
        x.train(2);
        x.predict(2);
        String out = Check.out(x);
        Check.badArgument("begin(0)", () -> x.begin(0));
        Check.badArgument("begin(7)", () -> x.begin(7));
        Check.badArgument("begin(-1)", () -> x.begin(-1));
        Check.badArgument("begin(MISSING)", () -> x.begin(MISSING));
        Check.same("count(1) behind a refused begin", x.count(1), 2);
        Check.same("count(2) behind a refused begin", x.count(2), 2);
        Check.written("a refused begin", x, out.length(), out);
        for (int columns = 1; columns <= 6; columns++) {
            x.begin(columns);
            isAsAtFirst("begin(" + columns + ")", x, columns);
        }
        x.begin(3);
        Check.same("the column is one of numbers again", x.kinds(1, false) ? 1 : 0, 0);
        x.add(1);
        Check.same("a new row is missing everywhere", x.put(0, 2, 1), MISSING);
    }

    /** At first: depth 2, least 1, weight 0, rate 1 / 2, all rows, all columns. */
    private static void beginForgetsPlan() {
        ResidualTrees x = new ResidualTrees();
        x.shape(1, 24, 20);
        x.rate(3, 7);
        x.sample(0, 0);
        x.begin(2);
        for (int row = 0; row < 8; row++) {
            x.add(row * row);
            x.put(row, 1, row);
        }
        x.cut(1, true, 8);
        Check.same("train(1) by the plan at first", x.train(1), 1);
        Check.same("nodes of depth 2", x.nodes(0), 7);
        Check.same("all rows are in the sample", x.node(0, 0, 5), 8);
        Check.same("all columns are in the choice", x.node(0, 0, 0), 1);
        // The greatest split of 0 1 4 9 16 25 36 49: (0 1 4 9 16) (25 36 49), then (0 1 4) (9 16) and (25 36) (49).
        Check.written("tell of the least leaf", x, x.tell(0, 2), "5/6");
        Check.written("tell of a leaf of two", x, x.tell(0, 3), "25/4");
        Check.written("tell of another leaf of two", x, x.tell(0, 5), "61/4");
        Check.written("tell of a leaf of one", x, x.tell(0, 6), "49/2");
    }

    private static void add() {
        ResidualTrees x = new ResidualTrees();
        Check.badArgument("add(1001)", () -> x.add(1001));
        Check.badArgument("add(-1001)", () -> x.add(-1001));
        Check.badArgument("add(MISSING)", () -> x.add(MISSING));
        Check.same("count(1) behind refused adds", x.count(1), 0);
        for (int row = 0; row < 48; row++) {
            Check.same("add", x.add(row % 2 == 0 ? 1000 : -1000), row);
        }
        Check.badState("add to 48 rows", () -> x.add(0));
        Check.badArgument("add of no target to 48 rows", () -> x.add(1001));
        Check.same("count(1)", x.count(1), 48);
        Check.written("residual of the last row", x, x.residual(47, 0), "-1000");
        Check.same("the last row is missing", x.put(47, 0, 5), MISSING);
    }

    private static void put() {
        ResidualTrees x = new ResidualTrees();
        x.begin(2);
        x.add(1);
        x.add(2);
        Check.same("put", x.put(1, 1, 1000000), MISSING);
        Check.same("put again", x.put(1, 1, -1000000), 1000000);
        Check.same("put of missing", x.put(1, 1, MISSING), -1000000);
        Check.same("put elsewhere", x.put(0, 1, 3), MISSING);
        Check.same("put elsewhere", x.put(1, 0, 4), MISSING);
        Check.badArgument("put, row -1", () -> x.put(-1, 0, 0));
        Check.badArgument("put, row 2", () -> x.put(2, 0, 0));
        Check.badArgument("put, column -1", () -> x.put(0, -1, 0));
        Check.badArgument("put, column 2", () -> x.put(0, 2, 0));
        Check.badArgument("put, value too great", () -> x.put(0, 1, 1000001));
        Check.badArgument("put, value too low", () -> x.put(0, 1, -1000001));
        Check.badArgument("put, value just above MISSING", () -> x.put(0, 1, MISSING + 1));
        Check.same("a refused put changes nothing", x.put(0, 1, 11), 3);
        x.kinds(1, true);
        Check.badArgument("put of kind 12", () -> x.put(0, 1, 12));
        Check.badArgument("put of kind -1", () -> x.put(0, 1, -1));
        Check.same("put of kind 0", x.put(0, 1, 0), 11);
        Check.same("put of no kind", x.put(0, 1, MISSING), 0);
        Check.same("put of kind 11", x.put(0, 1, 11), MISSING);
    }

    private static void target() {
        ResidualTrees x = new ResidualTrees();
        x.add(7);
        Check.same("target", x.target(0, -1000), 7);
        Check.same("target", x.target(0, 1000), -1000);
        Check.badArgument("target of row 1", () -> x.target(1, 0));
        Check.badArgument("target of row -1", () -> x.target(-1, 0));
        Check.badArgument("target 1001", () -> x.target(0, 1001));
        Check.badArgument("target -1001", () -> x.target(0, -1001));
        Check.badArgument("target MISSING", () -> x.target(0, MISSING));
        Check.written("residual", x, x.residual(0, 0), "1000");
    }

    private static void kinds() {
        ResidualTrees x = new ResidualTrees();
        x.begin(2);
        x.add(0);
        x.add(0);
        x.put(0, 0, 12);
        Check.badState("kinds with a 12", () -> x.kinds(0, true));
        x.put(0, 0, -1);
        Check.badState("kinds with a -1", () -> x.kinds(0, true));
        Check.badArgument("kinds(2, true)", () -> x.kinds(2, true));
        Check.badArgument("kinds(-1, false)", () -> x.kinds(-1, false));
        Check.same("it may stay one of numbers", x.kinds(0, false) ? 1 : 0, 0);
        x.put(0, 0, 0);
        x.put(1, 0, 11);
        Check.same("cut", x.cut(0, true, 2), 1);
        Check.same("kinds(0, true)", x.kinds(0, true) ? 1 : 0, 0);
        Check.badArgument("a column of kinds has no edge", () -> x.edge(0, 0));
        Check.same("kinds(0, true) again", x.kinds(0, true) ? 1 : 0, 1);
        Check.same("kinds(0, false)", x.kinds(0, false) ? 1 : 0, 1);
        Check.badArgument("its edges are gone", () -> x.edge(0, 0));
        Check.same("cut", x.cut(0, true, 2), 1);
        x.put(0, 0, 500);
        Check.badState("kinds with a 500", () -> x.kinds(0, true));
        Check.same("a refused call leaves the edges", x.edge(0, 0), 11);
        Check.same("kinds(0, false) of one of numbers", x.kinds(0, false) ? 1 : 0, 0);
        Check.badArgument("its edges are gone, too", () -> x.edge(0, 0));
        x.ask(1, 500);
        Check.same("the question is no row", x.kinds(1, true) ? 1 : 0, 0);
        x.begin(1);
        Check.same("rows that are gone have no values", x.kinds(0, true) ? 1 : 0, 0);
        x.ask(0, 500);
        for (int row = 0; row < 48; row++) {
            x.add(0);
        }
        Check.same("nor is it one behind 48 rows", x.kinds(0, true) ? 1 : 0, 1);
    }

    private static ResidualTrees withValues(int... values) {
        ResidualTrees x = new ResidualTrees();
        for (int i = 0; i < values.length; i++) {
            x.add(0);
            x.put(i, 0, values[i]);
        }
        return x;
    }

    private static void hasEdges(String when, ResidualTrees x, int count, int... due) {
        Check.same(when + " answers", count, due.length);
        for (int i = 0; i < due.length; i++) {
            Check.same(when + ", edge " + i, x.edge(0, i), due[i]);
        }
        Check.badArgument(when + ", edge behind the last", () -> x.edge(0, due.length));
    }

    private static void cutByWidth() {
        ResidualTrees x = withValues(10, MISSING, 1, 4);
        hasEdges("1 .. 10 by width in 3", x, x.cut(0, false, 3), 4, 7);
        hasEdges("1 .. 10 by width in 4", x, x.cut(0, false, 4), 3, 6, 8);
        hasEdges("1 .. 10 by width in 12", x, x.cut(0, false, 12), 2, 3, 4, 5, 6, 7, 8, 9, 10);
        ResidualTrees y = withValues(-10, -1);
        hasEdges("-10 .. -1 by width in 4", y, y.cut(0, false, 4), -8, -5, -3);
        ResidualTrees z = withValues(1000000, -1000000);
        hasEdges("all by width in 12", z, z.cut(0, false, 12), -833334, -666667, -500000, -333333, -166667, 0,
                166667, 333334, 500000, 666667, 833334);
        ResidualTrees one = withValues(7);
        hasEdges("one value by width", one, one.cut(0, false, 12));
        ResidualTrees two = withValues(7, 8);
        hasEdges("two values by width", two, two.cut(0, false, 5), 8);
    }

    private static void cutByCount() {
        ResidualTrees x = withValues(9, 5, MISSING, 1, 7, 3);
        hasEdges("1 3 5 7 9 by count in 2", x, x.cut(0, true, 2), 5);
        hasEdges("1 3 5 7 9 by count in 3", x, x.cut(0, true, 3), 3, 7);
        hasEdges("1 3 5 7 9 by count in 12", x, x.cut(0, true, 12), 3, 5, 7, 9);
        ResidualTrees y = withValues(-3, -3, -2, -2, -1, -1);
        hasEdges("by count in 6", y, y.cut(0, true, 6), -2, -1);
        ResidualTrees full = new ResidualTrees();
        int[] due = new int[11];
        for (int row = 0; row < 48; row++) {
            full.add(0);
            full.put(row, 0, 47 - row);
        }
        for (int k = 1; k <= 11; k++) {
            due[k - 1] = k * 4;
        }
        hasEdges("48 values by count in 12", full, full.cut(0, true, 12), due);
    }

    private static void cutsThatFallTogether() {
        ResidualTrees x = withValues(5, 5, 5, 5, 6);
        hasEdges("edges that are low go", x, x.cut(0, true, 2));
        hasEdges("one edge is not low", x, x.cut(0, true, 5), 6);
        x.put(4, 0, 5);
        hasEdges("all alike", x, x.cut(0, true, 5));
        ResidualTrees y = withValues(MISSING, MISSING);
        hasEdges("none known, by count", y, y.cut(0, true, 2));
        hasEdges("none known, by width", y, y.cut(0, false, 12));
        y.put(0, 0, 1);
        y.put(1, 0, 2);
        hasEdges("two known", y, y.cut(0, true, 2), 2);
        y.put(0, 0, MISSING);
        y.put(1, 0, MISSING);
        Check.same("edges stay until the next cut", y.edge(0, 0), 2);
        hasEdges("none known any more", y, y.cut(0, false, 2));
    }

    private static void cutRefuses() {
        ResidualTrees x = withValues(1, 2, 3);
        x.cut(0, true, 3);
        Check.badArgument("cut in 1", () -> x.cut(0, true, 1));
        Check.badArgument("cut in 13", () -> x.cut(0, false, 13));
        Check.badArgument("cut in -2", () -> x.cut(0, false, -2));
        Check.badArgument("cut of column 1", () -> x.cut(1, true, 2));
        Check.badArgument("cut of column -1", () -> x.cut(-1, true, 2));
        hasEdges("behind refused cuts", x, 2, 2, 3);
        x.kinds(0, true);
        Check.badState("cut of kinds", () -> x.cut(0, true, 2));
        Check.badArgument("cut of kinds in 1", () -> x.cut(0, true, 1));
    }

    private static void edge() {
        ResidualTrees x = withValues(1, 2, 3);
        x.cut(0, true, 3);
        Check.same("edge 0", x.edge(0, 0), 2);
        Check.same("edge 1", x.edge(0, 1), 3);
        Check.badArgument("edge 2", () -> x.edge(0, 2));
        Check.badArgument("edge -1", () -> x.edge(0, -1));
        Check.badArgument("edge of column 1", () -> x.edge(1, 0));
        Check.badArgument("edge of column -1", () -> x.edge(-1, 0));
        Check.badArgument("edge MISSING", () -> x.edge(0, MISSING));
    }

    private static void bin() {
        ResidualTrees x = withValues(1, 4, 9);
        Check.same("bin without edges", x.bin(0, 5), 0);
        x.cut(0, true, 3);
        Check.same("below all edges", x.bin(0, 3), 0);
        Check.same("at an edge", x.bin(0, 4), 1);
        Check.same("between", x.bin(0, 8), 1);
        Check.same("at the last", x.bin(0, 9), 2);
        Check.same("the greatest", x.bin(0, 1000000), 2);
        Check.same("the least", x.bin(0, -1000000), 0);
        Check.badArgument("bin of missing", () -> x.bin(0, MISSING));
        Check.badArgument("bin of 1000001", () -> x.bin(0, 1000001));
        Check.badArgument("bin of -1000001", () -> x.bin(0, -1000001));
        Check.badArgument("bin in column 1", () -> x.bin(1, 0));
        Check.badArgument("bin in column -1", () -> x.bin(-1, 0));
        x.kinds(0, true);
        Check.same("bin of kind 0", x.bin(0, 0), 0);
        Check.same("bin of kind 11", x.bin(0, 11), 11);
        Check.badArgument("bin of kind 12", () -> x.bin(0, 12));
        Check.badArgument("bin of kind -1", () -> x.bin(0, -1));
        Check.badArgument("bin of a missing kind", () -> x.bin(0, MISSING));
    }

    private static void count() {
        ResidualTrees x = new ResidualTrees();
        x.begin(4);
        Check.same("count(0)", x.count(0), 4);
        x.add(1);
        x.add(-1);
        Check.same("count(1)", x.count(1), 2);
        x.put(0, 0, 1);
        x.put(1, 0, 2);
        x.cut(0, true, 2);
        x.train(3);
        Check.same("count(2)", x.count(2), 3);
        // The residuals are 1 / 8 and -1 / 8.
        Check.same("count(3)", x.count(3), 4);
        x.drop(1);
        Check.same("count(3) by one tree", x.count(3), 2);
        x.target(0, 2);
        Check.same("count(3) goes by the targets now", x.count(3), 2);
        x.put(0, 0, MISSING);
        x.drop(0);
        Check.same("count(3) by no tree", x.count(3), 1);
        x.residual(1, 0);
        Check.same("count(4)", x.count(4), 2);
        Check.badArgument("count(5)", () -> x.count(5));
        Check.badArgument("count(-1)", () -> x.count(-1));
        Check.badArgument("count(MISSING)", () -> x.count(MISSING));
        Check.same("count(4) behind refused counts", x.count(4), 2);
    }
}
