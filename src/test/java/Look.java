/** All that calls tell of an object, as one text; in parts, each for an object of its own, for it has 512 calls. */
final class Look {
    static final int PARTS = 5;

    private static final int MISSING = ResidualTrees.MISSING;
    private static final int MOST_EDGES = 11;
    private static final int[] VALUES = {-1000000, -1, 0, 5, 11, 12, 1000000};

    private interface Answer {
        long get();
    }

    private final ResidualTrees x;
    private final StringBuilder seen = new StringBuilder();
    private final int columns;
    private final int rows;
    private final int trees;

    private Look(ResidualTrees x) {
        this.x = x;
        columns = x.count(0);
        rows = x.count(1);
        trees = x.count(2);
    }

    static String part(ResidualTrees x, int part) {
        Look look = new Look(x);
        switch (part) {
            case 0 -> look.columns();
            case 1 -> look.rows();
            case 2 -> look.forest();
            case 3 -> look.numbers();
            default -> look.plan();
        }
        return look.seen.toString();
    }

    private void note(String what, Answer answer) {
        seen.append(what).append(' ');
        try {
            seen.append(answer.get());
        } catch (RuntimeException e) {
            seen.append(e.getClass().getSimpleName());
        }
        seen.append('\n');
    }

    private void noteOut() {
        seen.append("out ").append(Check.out(x)).append('\n');
    }

    private void columns() {
        noteOut();
        for (int what = 0; what <= 4; what++) {
            int number = what;
            note("count", () -> x.count(number));
        }
        for (int column = 0; column < columns; column++) {
            int c = column;
            edges(c);
            for (int value : VALUES) {
                note("bin " + c + " " + value, () -> x.bin(c, value));
            }
            int asked = x.ask(c, MISSING);
            x.ask(c, asked);
            note("ask " + c, () -> asked);
            note("uses " + c, () -> x.uses(c));
        }
        note("more columns than " + columns, () -> x.uses(columns));
        noteOut();
    }

    private void edges(int column) {
        for (int i = 0; i <= MOST_EDGES; i++) {
            int which = i;
            try {
                int edge = x.edge(column, which);
                note("edge " + column + " " + which, () -> edge);
            } catch (IllegalArgumentException e) {
                return;
            }
        }
    }

    private void rows() {
        for (int row = 0; row < rows; row++) {
            int target = x.target(row, 0);
            x.target(row, target);
            note("target " + row, () -> target);
            for (int column = 0; column < columns; column++) {
                int value = x.put(row, column, MISSING);
                x.put(row, column, value);
                note("value " + row + " " + column, () -> value);
            }
        }
    }

    private void forest() {
        for (int tree = 0; tree < trees; tree++) {
            for (int node = 0; node < x.nodes(tree); node++) {
                int t = tree;
                int n = node;
                for (int what = 0; what <= 7; what++) {
                    int number = what;
                    note("node " + t + " " + n + " " + what, () -> x.node(t, n, number));
                }
                note("tell " + t + " " + n, () -> x.tell(t, n));
            }
        }
    }

    private void numbers() {
        int[] some = {0, trees / 2, trees};
        for (int by : some) {
            note("predict " + by, () -> x.predict(by));
            noteOut();
            note("error " + by, () -> x.error(-1, by));
            noteOut();
        }
        for (int row = 0; row < rows; row++) {
            int r = row;
            note("residual " + row, () -> x.residual(r, trees));
            if (row < 4) {
                noteOut();
            }
        }
        note("best", () -> x.best(-1));
    }

    /** What the next rounds go by shows in trees alone: one by the sample as it is, one by all rows. */
    private void plan() {
        note("train", () -> x.train(1));
        note("drop", () -> x.drop(0));
        newTree(0);
        x.sample(-1, -1);
        newTree(x.count(2));
    }

    private void newTree(int tree) {
        note("train", () -> x.train(1));
        if (x.count(2) == tree) {
            return;
        }
        for (int node = 0; node < x.nodes(tree) && node < 9; node++) {
            int n = node;
            note("column of " + node, () -> x.node(tree, n, 0));
            note("mark of " + node, () -> x.node(tree, n, 1));
            note("rows of " + node, () -> x.node(tree, n, 5));
            note("tell " + node, () -> x.tell(tree, n));
            noteOut();
        }
    }
}
