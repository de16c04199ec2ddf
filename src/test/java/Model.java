import java.math.BigInteger;
import java.util.ArrayList;
import java.util.Arrays;
import java.util.List;

/** The document once more, as slowly and plainly as it can be written: fractions, lists and no care for room. */
final class Model {
    private static final int MISSING = ResidualTrees.MISSING;
    private static final int NONE = ResidualTrees.NONE;

    /** In least terms, the lower part above 0. */
    record Fraction(BigInteger upper, BigInteger lower) {
        static final Fraction ZERO = of(0, 1);

        static Fraction of(long upper, long lower) {
            return of(BigInteger.valueOf(upper), BigInteger.valueOf(lower));
        }

        static Fraction of(BigInteger upper, BigInteger lower) {
            BigInteger g = upper.gcd(lower);
            return new Fraction(upper.divide(g), lower.divide(g));
        }

        Fraction plus(Fraction o) {
            return of(upper.multiply(o.lower).add(o.upper.multiply(lower)), lower.multiply(o.lower));
        }

        Fraction minus(Fraction o) {
            return plus(o.times(of(-1, 1)));
        }

        Fraction times(Fraction o) {
            return of(upper.multiply(o.upper), lower.multiply(o.lower));
        }

        Fraction over(int n) {
            return of(upper, lower.multiply(BigInteger.valueOf(n)));
        }

        int compare(Fraction o) {
            return upper.multiply(o.lower).compareTo(o.upper.multiply(lower));
        }

        String text() {
            return lower.equals(BigInteger.ONE) ? upper.toString() : upper + "/" + lower;
        }
    }

    private static final class Knot {
        int column = NONE;
        int mark;
        boolean ofKinds;
        boolean missingLeft;
        int left = NONE;
        int right = NONE;
        int rows;
        int depth;
        Fraction told;
    }

    private record Split(int column, int mark, boolean ofKinds, boolean missingLeft, List<Integer> left,
            List<Integer> right, Fraction gain) {
    }

    private int columns;
    private final List<int[]> rows = new ArrayList<>();
    private final List<Integer> targets = new ArrayList<>();
    private boolean[] kinds;
    private List<List<Integer>> edges;
    private int[] question;
    private final List<List<Knot>> trees = new ArrayList<>();
    private int depth;
    private int least;
    private int weight;
    private int p;
    private int q;
    private long sample;
    private int choice;
    private String out;

    Model() {
        begin(1);
    }

    String out() {
        return out;
    }

    private static void argument(boolean fine) {
        if (!fine) {
            throw new IllegalArgumentException();
        }
    }

    private static void state(boolean fine) {
        if (!fine) {
            throw new IllegalStateException();
        }
    }

    private static boolean in(int value, int low, int high) {
        return low <= value && value <= high;
    }

    private boolean fits(int column, int value) {
        return value == MISSING || (kinds[column] ? in(value, 0, 11) : in(value, -1000000, 1000000));
    }

    void begin(int width) {
        argument(in(width, 1, 6));
        columns = width;
        rows.clear();
        targets.clear();
        kinds = new boolean[width];
        edges = new ArrayList<>();
        for (int i = 0; i < width; i++) {
            edges.add(List.of());
        }
        question = new int[width];
        Arrays.fill(question, MISSING);
        trees.clear();
        depth = 2;
        least = 1;
        weight = 0;
        p = 1;
        q = 2;
        sample = -1;
        choice = -1;
        out = "";
    }

    int add(int target) {
        argument(in(target, -1000, 1000));
        state(rows.size() < 48);
        int[] row = new int[columns];
        Arrays.fill(row, MISSING);
        rows.add(row);
        targets.add(target);
        return rows.size() - 1;
    }

    int put(int row, int column, int value) {
        argument(in(row, 0, rows.size() - 1) && in(column, 0, columns - 1));
        argument(fits(column, value));
        int was = rows.get(row)[column];
        rows.get(row)[column] = value;
        return was;
    }

    int target(int row, int value) {
        argument(in(row, 0, rows.size() - 1) && in(value, -1000, 1000));
        return targets.set(row, value);
    }

    boolean kinds(int column, boolean is) {
        argument(in(column, 0, columns - 1));
        for (int[] row : rows) {
            state(!is || row[column] == MISSING || in(row[column], 0, 11));
        }
        boolean was = kinds[column];
        kinds[column] = is;
        edges.set(column, List.of());
        return was;
    }

    int cut(int column, boolean byCount, int n) {
        argument(in(column, 0, columns - 1) && in(n, 2, 12));
        state(!kinds[column]);
        int[] v = rows.stream().mapToInt(row -> row[column]).filter(x -> x != MISSING).sorted().toArray();
        List<Integer> found = new ArrayList<>();
        for (int k = 1; k < n && v.length > 0; k++) {
            int low = v[0];
            int high = v[v.length - 1];
            int edge = byCount ? v[k * v.length / n] : low + k * (high - low + 1) / n;
            if (edge != low && !found.contains(edge)) {
                found.add(edge);
            }
        }
        edges.set(column, found);
        return found.size();
    }

    int edge(int column, int i) {
        argument(in(column, 0, columns - 1));
        argument(in(i, 0, edges.get(column).size() - 1));
        return edges.get(column).get(i);
    }

    int bin(int column, int value) {
        argument(in(column, 0, columns - 1) && value != MISSING);
        argument(fits(column, value));
        return kinds[column] ? value : (int) edges.get(column).stream().filter(edge -> edge <= value).count();
    }

    void shape(int newDepth, int newLeast, int newWeight) {
        argument(in(newDepth, 1, 4) && in(newLeast, 1, 24) && in(newWeight, 0, 20));
        depth = newDepth;
        least = newLeast;
        weight = newWeight;
    }

    void rate(int newP, int newQ) {
        argument(1 <= newP && newP <= newQ && newQ <= 16);
        p = newP;
        q = newQ;
    }

    int sample(long newSample, int newChoice) {
        sample = newSample;
        choice = newChoice;
        return chosen(newSample).size();
    }

    private List<Integer> chosen(long bits) {
        List<Integer> found = new ArrayList<>();
        for (int i = 0; i < rows.size(); i++) {
            if ((bits >> i & 1) == 1) {
                found.add(i);
            }
        }
        return found;
    }

    int train(int rounds) {
        argument(in(rounds, 1, 16));
        List<Integer> root = chosen(sample);
        state(!root.isEmpty() && (choice & (1 << columns) - 1) != 0 && trees.size() + rounds <= 16);
        int more = 0;
        for (int i = 0; i < rounds; i++) {
            Fraction[] left = new Fraction[rows.size()];
            for (int row = 0; row < left.length; row++) {
                left[row] = left(row, trees.size());
            }
            List<Knot> tree = new ArrayList<>();
            grow(tree, root, 0, left);
            trees.add(tree);
            if (common() > 1500) {
                trees.remove(trees.size() - 1);
                break;
            }
            more++;
        }
        return more;
    }

    private static Fraction sum(List<Integer> some, Fraction[] left) {
        Fraction sum = Fraction.ZERO;
        for (int row : some) {
            sum = sum.plus(left[row]);
        }
        return sum;
    }

    private void grow(List<Knot> tree, List<Integer> some, int at, Fraction[] left) {
        Knot knot = new Knot();
        tree.add(knot);
        knot.rows = some.size();
        knot.depth = at;
        Split best = at < depth ? split(some, left) : null;
        if (best == null || best.gain.compare(Fraction.ZERO) <= 0) {
            knot.told = sum(some, left).times(Fraction.of(p, q)).over(some.size() + weight);
            return;
        }
        knot.column = best.column;
        knot.mark = best.mark;
        knot.ofKinds = best.ofKinds;
        knot.missingLeft = best.missingLeft;
        knot.told = best.gain;
        knot.left = tree.size();
        grow(tree, best.left, at + 1, left);
        knot.right = tree.size();
        grow(tree, best.right, at + 1, left);
    }

    private Split split(List<Integer> some, Fraction[] left) {
        Split best = null;
        for (int column = 0; column < columns; column++) {
            if ((choice >> column & 1) == 0) {
                continue;
            }
            int c = column;
            boolean anyMissing = some.stream().anyMatch(row -> rows.get(row)[c] == MISSING);
            List<Integer> order = order(some, column, left);
            int last = kinds[column] ? order.size() - 1 : edges.get(column).size();
            for (int k = 1; k <= last; k++) {
                int mark = kinds[column] ? 0 : edges.get(column).get(k - 1);
                for (int i = 0; i < k && kinds[column]; i++) {
                    mark |= 1 << order.get(i);
                }
                for (int side = 0; side < (anyMissing ? 2 : 1); side++) {
                    Split split = parted(some, column, mark, side == 0, left);
                    if (split != null && (best == null || split.gain.compare(best.gain) > 0)) {
                        best = split;
                    }
                }
            }
        }
        return best;
    }

    private List<Integer> order(List<Integer> some, int column, Fraction[] left) {
        List<Integer> order = new ArrayList<>();
        Fraction[] means = new Fraction[12];
        for (int kind = 0; kind < 12 && kinds[column]; kind++) {
            int wanted = kind;
            List<Integer> those = some.stream().filter(row -> rows.get(row)[column] == wanted).toList();
            if (!those.isEmpty()) {
                order.add(kind);
                means[kind] = sum(those, left).over(those.size() + weight);
            }
        }
        order.sort((a, b) -> means[a].compare(means[b]) != 0 ? means[a].compare(means[b]) : a - b);
        return order;
    }

    private Split parted(List<Integer> some, int column, int mark, boolean missingLeft, Fraction[] left) {
        List<Integer> one = new ArrayList<>();
        List<Integer> other = new ArrayList<>();
        for (int row : some) {
            (goesLeft(rows.get(row)[column], mark, kinds[column], missingLeft) ? one : other).add(row);
        }
        if (one.size() < least || other.size() < least) {
            return null;
        }
        Fraction gain = worth(one, left).plus(worth(other, left)).minus(worth(some, left));
        return new Split(column, mark, kinds[column], missingLeft, one, other, gain);
    }

    private Fraction worth(List<Integer> some, Fraction[] left) {
        Fraction sum = sum(some, left);
        return sum.times(sum).over(some.size() + weight);
    }

    private static boolean goesLeft(int value, int mark, boolean ofKinds, boolean missingLeft) {
        if (value == MISSING) {
            return missingLeft;
        }
        return ofKinds ? in(value, 0, 11) && (mark >> value & 1) == 1 : value < mark;
    }

    int drop(int stay) {
        argument(in(stay, 0, trees.size()));
        int gone = trees.size() - stay;
        trees.subList(stay, trees.size()).clear();
        return gone;
    }

    private Knot knot(int tree, int node) {
        argument(in(tree, 0, trees.size() - 1));
        argument(in(node, 0, trees.get(tree).size() - 1));
        return trees.get(tree).get(node);
    }

    int node(int tree, int node, int what) {
        Knot knot = knot(tree, node);
        argument(in(what, 0, 7));
        return new int[] {knot.column, knot.mark, knot.missingLeft ? 1 : 0, knot.left, knot.right, knot.rows,
            knot.depth, knot.ofKinds ? 1 : 0}[what];
    }

    private int common() {
        BigInteger common = BigInteger.ONE;
        for (int row = 0; row < rows.size(); row++) {
            BigInteger lower = left(row, trees.size()).lower;
            common = common.divide(common.gcd(lower)).multiply(lower);
        }
        return common.bitLength();
    }

    int count(int what) {
        argument(in(what, 0, 4));
        return new int[] {columns, rows.size(), trees.size(), common(), out.length()}[what];
    }

    int nodes(int tree) {
        argument(in(tree, 0, trees.size() - 1));
        return trees.get(tree).size();
    }

    int uses(int column) {
        argument(in(column, 0, columns - 1));
        return (int) trees.stream().flatMap(List::stream).filter(knot -> knot.column == column).count();
    }

    private int write(Fraction fraction) {
        out = fraction.text();
        return out.length();
    }

    int tell(int tree, int node) {
        return write(knot(tree, node).told);
    }

    private Fraction prediction(int[] values, int first) {
        Fraction sum = Fraction.ZERO;
        for (List<Knot> tree : trees.subList(0, first)) {
            Knot knot = tree.get(0);
            while (knot.column != NONE) {
                boolean left = goesLeft(values[knot.column], knot.mark, knot.ofKinds, knot.missingLeft);
                knot = tree.get(left ? knot.left : knot.right);
            }
            sum = sum.plus(knot.told);
        }
        return sum;
    }

    private Fraction left(int row, int first) {
        return Fraction.of(targets.get(row), 1).minus(prediction(rows.get(row), first));
    }

    int residual(int row, int first) {
        argument(in(row, 0, rows.size() - 1) && in(first, 0, trees.size()));
        return write(left(row, first));
    }

    int ask(int column, int value) {
        argument(in(column, 0, columns - 1) && (value == MISSING || in(value, -1000000, 1000000)));
        int was = question[column];
        question[column] = value;
        return was;
    }

    int predict(int first) {
        argument(in(first, 0, trees.size()));
        return write(prediction(question, first));
    }

    private Fraction squares(long bits, int first) {
        Fraction sum = Fraction.ZERO;
        for (int row : chosen(bits)) {
            sum = sum.plus(left(row, first).times(left(row, first)));
        }
        return sum;
    }

    int error(long bits, int first) {
        argument(in(first, 0, trees.size()));
        return write(squares(bits, first));
    }

    int best(long bits) {
        int best = 0;
        for (int i = 1; i <= trees.size(); i++) {
            if (squares(bits, i).compare(squares(bits, best)) < 0) {
                best = i;
            }
        }
        return best;
    }

    int byteAt(int i) {
        return in(i, 0, out.length() - 1) ? out.charAt(i) : NONE;
    }
}
