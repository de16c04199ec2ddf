/** Promises 13, 16, 19, 20, 22 to 25 with numbers nearly as long as they can come, answered as the model answers them. */
public final class WideTest {
    /** Groups of 48 rows that have nine leaves of their own: their rows and weight share few divisors. */
    private static final int[] SIZES = {1, 2, 3, 4, 5, 6, 7, 9, 11};
    private static final int[] TARGETS = {466, 4, 63, 843, -686, 141, -728, 693, -55};
    private static final int[] FIRST = {4, 7, 7, 0, 6, 11, 1, 10, 10};
    private static final int[] SECOND = {1, 4, 9, 11, 4, 7, 2, 4, 6};
    /** An object is used for 512 calls; about 150 of them go into the table. */
    private static final int BYTES_OF_AN_OBJECT = 300;

    private interface Writing {
        int on(ResidualTrees trees, Model model, boolean asksModel);
    }

    private ResidualTrees trees;
    private Model model;

    public static void main(String[] args) {
        new WideTest().all();
        Check.end();
    }

    private void all() {
        make();
        Check.same("count(3)", trees.count(3), 583);
        Check.same("count(3) of the model", model.count(3), 583);
        for (int tree = 0; tree < 16; tree++) {
            Check.same("nodes", trees.nodes(tree), model.nodes(tree));
            for (int node = 0; node < model.nodes(tree); node++) {
                Check.same("tell(" + tree + ", " + node + ")", trees.tell(tree, node), model.tell(tree, node));
            }
        }
        make();
        for (int count = 0; count <= 16; count++) {
            Check.same("error by " + count, trees.error(-1, count), model.error(-1, count));
        }
        for (int group = 0; group < 48; group++) {
            Check.same("best of " + group, trees.best(3L << group), model.best(3L << group));
        }
        whole("error", (x, m, asksModel) -> asksModel ? m.error(-1, 16) : x.error(-1, 16));
        whole("residual", (x, m, asksModel) -> asksModel ? m.residual(47, 16) : x.residual(47, 16));
        whole("predict", (x, m, asksModel) -> asksModel ? m.predict(16) : x.predict(16));
        whole("gain", (x, m, asksModel) -> asksModel ? m.tell(15, 0) : x.tell(15, 0));
        whole("value", (x, m, asksModel) -> asksModel ? m.tell(15, 2) : x.tell(15, 2));
    }

    private void whole(String what, Writing writing) {
        int length = writing.on(trees, model, true);
        for (int start = 0; start <= length; start += BYTES_OF_AN_OBJECT) {
            make();
            Check.same(what, writing.on(trees, model, false), writing.on(trees, model, true));
            for (int i = start; i < start + BYTES_OF_AN_OBJECT && i <= length; i++) {
                Check.same(what + ", byte " + i, trees.byteAt(i), model.byteAt(i));
            }
        }
    }

    private void make() {
        trees = new ResidualTrees();
        model = new Model();
        trees.begin(2);
        model.begin(2);
        for (int group = 0; group < SIZES.length; group++) {
            for (int i = 0; i < SIZES[group]; i++) {
                addRow(TARGETS[group], FIRST[group], SECOND[group]);
            }
        }
        for (int column = 0; column < 2; column++) {
            trees.cut(column, false, 12);
            model.cut(column, false, 12);
        }
        trees.shape(4, 1, 20);
        model.shape(4, 1, 20);
        trees.rate(1, 16);
        model.rate(1, 16);
        Check.same("train(16)", trees.train(16), model.train(16));
    }

    private void addRow(int target, int first, int second) {
        int row = trees.add(target);
        model.add(target);
        trees.put(row, 0, first);
        model.put(row, 0, first);
        trees.put(row, 1, second);
        model.put(row, 1, second);
    }
}
