import java.util.ArrayList;
import java.util.Arrays;

/** Trees that are grown one behind the other, each for what all before it left; all numbers are exact. */
public final class ResidualTrees {
    public static final int MISSING = -2147483648, NONE = -1;

    private static final int MOST_COLUMNS = 6, MOST_ROWS = 48, MOST_TREES = 16;
    private static final int MOST_TARGET = 1000, MOST_VALUE = 1000000, KINDS = 12;
    private static final int LEAST_CUTS = 2, MOST_CUTS = 12, MOST_EDGES = 11;
    private static final int MOST_DEPTH = 4, MOST_LEAST = 24, MOST_WEIGHT = 20, MOST_RATE = 16;
    private static final int MOST_COMMON_BITS = 1500;

    /** The question stands behind the last row, so that it goes through a tree as a row does. */
    private static final int QUESTION = MOST_ROWS;

    /** All that divides a denominator: each is made of rates (up to 16) and of rows and weight (up to 48 + 20). */
    private static final int[] PRIMES = {2, 3, 5, 7, 11, 13, 17, 19, 23, 29, 31, 37, 41, 43, 47, 53, 59, 61, 67};

    /*
     * Why so many words of nine digits are enough: leaves with at most 48 rows in all have at most
     * 111,767,455,800 as the least common multiple of their rows and weight, so a round makes the
     * denominator at most 16 times that greater; behind 16 rounds it has at most 652 bits, or 197 digits
     * (so COMMON can't come to its limit of 1,500 bits, which is looked at all the same). A leaf's value is
     * no greater than the greatest residual of its round, so residuals by k trees stay within 1,000 * 2^k,
     * whatever becomes of the rows; their upper parts have at most 204 digits, and four more while a leaf's
     * value is worked out. The sum of 48 squares then has at most 410.
     */
    private static final int WORDS = 24, SQUARE_WORDS = 48;

    private final Table table = new Table();
    private final Plan plan = new Plan();
    private final Whole[] residuals = wholes(MOST_ROWS);
    private final Grower grower = new Grower(table, plan, residuals);
    /** Trees are made once and used again; only the first treeCount of them stand. */
    private final ArrayList<Tree> forest = new ArrayList<>();
    private int treeCount;
    private final Out out = new Out();
    private final int[] sorted = new int[MOST_ROWS];
    private final Whole leaf = new Whole(WORDS);
    private final Whole common = new Whole(WORDS);
    private final Whole square = new Whole(SQUARE_WORDS);
    private final Whole squares = new Whole(SQUARE_WORDS);
    private final Whole fewest = new Whole(SQUARE_WORDS);

    public ResidualTrees() {
        startOver(1);
    }

    public void begin(int columns) throws IllegalArgumentException {
        demand(isWithin(columns, 1, MOST_COLUMNS));
        startOver(columns);
    }

    public int add(int target) throws IllegalArgumentException, IllegalStateException {
        demand(isTarget(target));
        demandState(table.rows < MOST_ROWS);
        return table.newRow(target);
    }

    public int put(int row, int column, int value) throws IllegalArgumentException {
        demand(table.hasRow(row) && table.hasColumn(column));
        demand(table.columns[column].takes(value));
        return table.columns[column].exchange(row, value);
    }

    public int target(int row, int value) throws IllegalArgumentException {
        demand(table.hasRow(row) && isTarget(value));
        int was = table.targets[row];
        table.targets[row] = value;
        return was;
    }

    public boolean kinds(int column, boolean is) throws IllegalArgumentException, IllegalStateException {
        demand(table.hasColumn(column));
        demandState(!is || table.columns[column].hasKindsAlone(table.rows));
        return table.columns[column].become(is);
    }

    public int cut(int column, boolean byCount, int n) throws IllegalArgumentException, IllegalStateException {
        demand(table.hasColumn(column) && isWithin(n, LEAST_CUTS, MOST_CUTS));
        demandState(!table.columns[column].ofKinds);
        int known = table.columns[column].sortInto(sorted, table.rows);
        return table.columns[column].cutEdges(byCount, n, sorted, known);
    }

    public int edge(int column, int i) throws IllegalArgumentException {
        demand(table.hasColumn(column));
        demand(isWithin(i, 0, table.columns[column].edgeCount - 1));
        return table.columns[column].edges[i];
    }

    public int bin(int column, int value) throws IllegalArgumentException {
        demand(table.hasColumn(column) && value != MISSING);
        demand(table.columns[column].takes(value));
        return table.columns[column].binOf(value);
    }

    public void shape(int depth, int least, int weight) throws IllegalArgumentException {
        demand(isWithin(depth, 1, MOST_DEPTH) && isWithin(least, 1, MOST_LEAST) && isWithin(weight, 0, MOST_WEIGHT));
        plan.depth = depth;
        plan.least = least;
        plan.weight = weight;
    }

    public void rate(int p, int q) throws IllegalArgumentException {
        demand(isWithin(q, 1, MOST_RATE) && isWithin(p, 1, q));
        plan.rateUpper = p;
        plan.rateLower = q;
    }

    public int sample(long rows, int columns) {
        plan.sampleBits = rows;
        plan.choiceBits = columns;
        return Long.bitCount(rows & table.rowBits());
    }

    public int train(int rounds) throws IllegalArgumentException, IllegalStateException {
        demand(isWithin(rounds, 1, MOST_TREES));
        long sampled = plan.sampleBits & table.rowBits();
        demandState(sampled != 0 && (plan.choiceBits & table.columnBits()) != 0);
        demandState(treeCount + rounds <= MOST_TREES);
        int before = treeCount;
        for (int round = 0; round < rounds; round++) {
            leaveAll(treeCount);
            Tree tree = freshTree();
            grower.grow(tree, sampled, 0);
            tree.settle(plan);
            treeCount++;
            if (commonBits() > MOST_COMMON_BITS) {
                treeCount--;
                break;
            }
        }
        return treeCount - before;
    }

    public int drop(int trees) throws IllegalArgumentException {
        demand(isWithin(trees, 0, treeCount));
        int gone = treeCount - trees;
        treeCount = trees;
        return gone;
    }

    public int node(int tree, int node, int what) throws IllegalArgumentException {
        demand(hasNode(tree, node));
        Node told = forest.get(tree).at(node);
        switch (what) {
            case 0: return told.column;
            case 1: return told.mark;
            case 2: return told.missingLeft ? 1 : 0;
            case 3: return told.left;
            case 4: return told.right;
            case 5: return told.rows;
            case 6: return told.depth;
            case 7: return told.ofKinds ? 1 : 0;
            default: throw new IllegalArgumentException();
        }
    }

    public int count(int what) throws IllegalArgumentException {
        switch (what) {
            case 0: return table.width;
            case 1: return table.rows;
            case 2: return treeCount;
            case 3: return commonBits();
            case 4: return out.length;
            default: throw new IllegalArgumentException();
        }
    }

    public int nodes(int tree) throws IllegalArgumentException {
        demand(isWithin(tree, 0, treeCount - 1));
        return forest.get(tree).nodeCount;
    }

    public int uses(int column) throws IllegalArgumentException {
        demand(table.hasColumn(column));
        int used = 0;
        for (int i = 0; i < treeCount; i++) {
            used += forest.get(i).splitsOf(column);
        }
        return used;
    }

    public int tell(int tree, int node) throws IllegalArgumentException {
        demand(hasNode(tree, node));
        Tree told = forest.get(tree);
        Node at = told.at(node);
        setToScales(out.lower, tree);
        if (at.column == NONE) {
            out.upper[0].set(at.sum);
            out.upper[0].times(told.rateUpper);
            out.lower.times(told.rateLower * (at.rows + told.weight));
        } else {
            setToGain(told, at);
        }
        return out.write();
    }

    public int residual(int row, int trees) throws IllegalArgumentException {
        demand(table.hasRow(row) && isWithin(trees, 0, treeCount));
        leave(row, trees, out.upper[0]);
        setToScales(out.lower, trees);
        return out.write();
    }

    public int ask(int column, int value) throws IllegalArgumentException {
        demand(table.hasColumn(column) && (value == MISSING || isNumber(value)));
        return table.columns[column].exchange(QUESTION, value);
    }

    public int predict(int trees) throws IllegalArgumentException {
        demand(isWithin(trees, 0, treeCount));
        leave(QUESTION, trees, out.upper[0]);
        // The question has the target 0, so what the trees leave of it is the prediction with the other sign.
        out.upper[0].turn();
        setToScales(out.lower, trees);
        return out.write();
    }

    public int error(long rows, int trees) throws IllegalArgumentException {
        demand(isWithin(trees, 0, treeCount));
        leaveAll(trees);
        sumSquares(rows & table.rowBits());
        out.upper[0].set(squares);
        setToScales(common, trees);
        out.lower.setProduct(common, common);
        return out.write();
    }

    public int best(long rows) {
        long asked = rows & table.rowBits();
        int found = 0;
        leaveAll(0);
        sumSquares(asked);
        fewest.set(squares);
        for (int i = 0; i < treeCount; i++) {
            Tree tree = forest.get(i);
            for (int row = 0; row < table.rows; row++) {
                leaveBehind(tree, row, residuals[row]);
            }
            sumSquares(asked);
            // Both sums must stand over the same denominator, the square of the scales so far.
            fewest.times(tree.scale);
            fewest.times(tree.scale);
            if (squares.compare(fewest) < 0) {
                fewest.set(squares);
                found = i + 1;
            }
        }
        return found;
    }

    public int byteAt(int i) {
        return isWithin(i, 0, out.length - 1) ? out.bytes[i] : NONE;
    }

    private void startOver(int columns) {
        table.clear(columns);
        plan.clear();
        treeCount = 0;
        out.length = 0;
    }

    private static void demand(boolean isFine) throws IllegalArgumentException {
        if (!isFine) {
            throw new IllegalArgumentException();
        }
    }

    private static void demandState(boolean isFine) throws IllegalStateException {
        if (!isFine) {
            throw new IllegalStateException();
        }
    }

    private static boolean isWithin(int value, int least, int greatest) {
        return value >= least && value <= greatest;
    }

    private static boolean isTarget(int value) {
        return isWithin(value, -MOST_TARGET, MOST_TARGET);
    }

    private static boolean isNumber(int value) {
        return isWithin(value, -MOST_VALUE, MOST_VALUE);
    }

    private static boolean isKind(int value) {
        return value >= 0 && value < KINDS;
    }

    private boolean hasNode(int tree, int node) {
        return isWithin(tree, 0, treeCount - 1) && isWithin(node, 0, forest.get(tree).nodeCount - 1);
    }

    private Tree freshTree() {
        if (treeCount == forest.size()) {
            forest.add(new Tree());
        }
        Tree tree = forest.get(treeCount);
        tree.nodeCount = 0;
        return tree;
    }

    /** What the first trees leave of a row's target, over the product of their scales. */
    private void leave(int row, int firstTrees, Whole left) {
        left.set(table.targets[row]);
        for (int i = 0; i < firstTrees; i++) {
            leaveBehind(forest.get(i), row, left);
        }
    }

    private void leaveBehind(Tree tree, int row, Whole left) {
        left.times(tree.scale);
        tree.setToValue(leaf, tree.leafOf(table.columns, row));
        left.plus(leaf, true);
    }

    private void leaveAll(int firstTrees) {
        for (int row = 0; row < table.rows; row++) {
            leave(row, firstTrees, residuals[row]);
        }
    }

    private void setToScales(Whole product, int firstTrees) {
        product.set(1);
        for (int i = 0; i < firstTrees; i++) {
            product.times(forest.get(i).scale);
        }
    }

    private void setToGain(Tree tree, Node split) {
        Node left = tree.at(split.left);
        Node right = tree.at(split.right);
        int under = split.rows + tree.weight;
        int underLeft = left.rows + tree.weight;
        int underRight = right.rows + tree.weight;
        setToSides(out.upper[0], left.sum, underLeft, right.sum, underRight, square);
        out.upper[0].times(under);
        square.setProduct(split.sum, split.sum);
        square.times(underLeft * underRight);
        out.upper[0].plus(square, true);
        common.set(out.lower);
        out.lower.setProduct(common, common);
        out.lower.times(underLeft * underRight * under);
    }

    /** The two sides' squares over rows and weight, both over the product of these; part is a helper. */
    private static void setToSides(Whole sides, Whole left, int underLeft, Whole right, int underRight, Whole part) {
        sides.setProduct(left, left);
        sides.times(underRight);
        part.setProduct(right, right);
        part.times(underLeft);
        sides.plus(part, false);
    }

    private void sumSquares(long rows) {
        squares.set(0);
        for (int row = 0; row < table.rows; row++) {
            if ((rows >> row & 1) == 1) {
                square.setProduct(residuals[row], residuals[row]);
                squares.plus(square, false);
            }
        }
    }

    private int commonBits() {
        leaveAll(treeCount);
        setToScales(common, treeCount);
        reduce(residuals, table.rows, common);
        return common.halveAway();
    }

    /** Divides the first upper parts and the lower part that they share by all that divides each of them. */
    private static void reduce(Whole[] uppers, int count, Whole lower) {
        for (int prime : PRIMES) {
            for (int i = 0; i < lower.mostBits() && divides(prime, uppers, count, lower); i++) {
                lower.divide(prime);
                for (int k = 0; k < count; k++) {
                    uppers[k].divide(prime);
                }
            }
        }
    }

    private static boolean divides(int prime, Whole[] uppers, int count, Whole lower) {
        boolean all = lower.rest(prime) == 0;
        for (int k = 0; k < count && all; k++) {
            all = uppers[k].rest(prime) == 0;
        }
        return all;
    }

    private static long greatestDivisor(long a, long b) {
        long one = a;
        long other = b;
        // Every two steps halve the numbers, and they have at most 63 bits.
        for (int i = 0; i < 128 && other != 0; i++) {
            long rest = one % other;
            one = other;
            other = rest;
        }
        return one;
    }

    private static Whole[] wholes(int count) {
        Whole[] made = new Whole[count];
        for (int i = 0; i < count; i++) {
            made[i] = new Whole(WORDS);
        }
        return made;
    }

    /** A whole number: its sign, and words of nine digits, the lowest first. */
    private static final class Whole {
        private static final int BASE = 1000000000, BITS_OF_WORD = 30;

        final int[] words;
        int length;
        boolean isBelow;

        Whole(int room) {
            words = new int[room];
        }

        int mostBits() {
            return words.length * BITS_OF_WORD;
        }

        /** A number of at most nine digits. */
        void set(int value) {
            isBelow = value < 0;
            words[0] = isBelow ? -value : value;
            trim(1);
        }

        void set(Whole other) {
            length = Math.min(other.length, words.length);
            System.arraycopy(other.words, 0, words, 0, length);
            isBelow = other.isBelow;
        }

        void turn() {
            isBelow = !isBelow;
        }

        int sign() {
            return length == 0 ? 0 : isBelow ? -1 : 1;
        }

        /** The highest word is never 0; most is within the words. */
        private void trim(int most) {
            length = most;
            while (length > 0 && words[length - 1] == 0) {
                length--;
            }
        }

        /** By a factor from 0 on of at most 18 digits. */
        void times(long factor) {
            long high = factor / BASE;
            long low = factor % BASE;
            long before = 0;
            long carry = 0;
            int i = 0;
            for (; i < words.length && (i < length || before * high + carry != 0); i++) {
                long word = i < length ? words[i] : 0;
                long sum = word * low + before * high + carry;
                carry = sum / BASE;
                words[i] = (int) (sum - carry * BASE);
                before = word;
            }
            trim(i);
        }

        /** To the product of two numbers that are not this one. */
        void setProduct(Whole a, Whole b) {
            int most = Math.min(a.length + b.length, words.length);
            Arrays.fill(words, 0, most, 0);
            for (int i = 0; i < a.length; i++) {
                long factor = a.words[i];
                long carry = 0;
                for (int k = 0; k < b.length && i + k < most; k++) {
                    long sum = factor * b.words[k] + words[i + k] + carry;
                    carry = sum / BASE;
                    words[i + k] = (int) (sum - carry * BASE);
                }
                if (i + b.length < most) {
                    words[i + b.length] = (int) carry;
                }
            }
            isBelow = a.isBelow != b.isBelow;
            trim(most);
        }

        /** The other number is added, or, if it is turned, taken away. */
        void plus(Whole other, boolean turned) {
            boolean grows = (isBelow == other.isBelow) != turned;
            int carry = 0;
            int i = 0;
            for (; i < words.length && (i < length || i < other.length || carry > 0); i++) {
                int word = i < other.length ? other.words[i] : 0;
                int sum = (i < length ? words[i] : 0) + (grows ? word : -word) + carry;
                carry = sum >= BASE ? 1 : sum < 0 ? -1 : 0;
                words[i] = sum - carry * BASE;
            }
            if (carry < 0) {
                complement(i);
            }
            trim(i);
        }

        /** The greater one was taken away from the lesser: what stands here lacks the highest word's borrow. */
        private void complement(int most) {
            int borrow = 0;
            for (int i = 0; i < most && i < words.length; i++) {
                int word = -words[i] - borrow;
                borrow = word < 0 ? 1 : 0;
                words[i] = word + borrow * BASE;
            }
            isBelow = !isBelow;
        }

        /** What stays of the number without its sign. */
        int rest(int divisor) {
            long rest = 0;
            for (int i = length - 1; i >= 0; i--) {
                rest = (rest * BASE + words[i]) % divisor;
            }
            return (int) rest;
        }

        /** Cut off, if the divisor leaves a rest. */
        void divide(int divisor) {
            long rest = 0;
            for (int i = length - 1; i >= 0; i--) {
                long part = rest * BASE + words[i];
                words[i] = (int) (part / divisor);
                rest = part % divisor;
            }
            trim(length);
        }

        int compare(Whole other) {
            int order = Integer.compare(sign(), other.sign());
            if (order == 0) {
                order = Integer.compare(length, other.length);
                for (int i = length - 1; i >= 0 && order == 0; i--) {
                    order = Integer.compare(words[i], other.words[i]);
                }
                order = isBelow ? -order : order;
            }
            return order;
        }

        /** How many bits the number has; nothing of it is left. */
        int halveAway() {
            int bits = 0;
            for (; bits < mostBits() && length > 0; bits++) {
                divide(2);
            }
            return bits;
        }
    }

    /** The values of all rows, and of the question, in one column. */
    private static final class Column {
        final int[] values = new int[MOST_ROWS + 1];
        final int[] edges = new int[MOST_EDGES];
        int edgeCount;
        boolean ofKinds;

        boolean takes(int value) {
            return value == MISSING || (ofKinds ? isKind(value) : isNumber(value));
        }

        int exchange(int row, int value) {
            int was = values[row];
            values[row] = value;
            return was;
        }

        boolean hasKindsAlone(int rows) {
            boolean alone = true;
            for (int row = 0; row < rows; row++) {
                alone = alone && (values[row] == MISSING || isKind(values[row]));
            }
            return alone;
        }

        boolean become(boolean kinds) {
            boolean was = ofKinds;
            ofKinds = kinds;
            edgeCount = 0;
            return was;
        }

        int binOf(int value) {
            if (ofKinds) {
                return value;
            }
            int bin = 0;
            while (bin < edgeCount && edges[bin] <= value) {
                bin++;
            }
            return bin;
        }

        /** The values that are not missing, rising: how many they are. */
        int sortInto(int[] sorted, int rows) {
            int known = 0;
            for (int row = 0; row < rows; row++) {
                if (values[row] != MISSING) {
                    int at = known++;
                    for (; at > 0 && sorted[at - 1] > values[row]; at--) {
                        sorted[at] = sorted[at - 1];
                    }
                    sorted[at] = values[row];
                }
            }
            return known;
        }

        int cutEdges(boolean byCount, int n, int[] sorted, int known) {
            edgeCount = 0;
            if (known == 0) {
                return 0;
            }
            int low = sorted[0];
            int width = sorted[known - 1] - low + 1;
            int last = low;
            for (int k = 1; k < n; k++) {
                int cut = byCount ? sorted[k * known / n] : low + k * width / n;
                // Cuts never fall, so those that are alike stand side by side, and those that are low come first.
                if (cut > last) {
                    edges[edgeCount++] = cut;
                    last = cut;
                }
            }
            return edgeCount;
        }
    }

    private static final class Table {
        final Column[] columns = new Column[MOST_COLUMNS];
        /** The question, behind all rows, has the target 0. */
        final int[] targets = new int[MOST_ROWS + 1];
        int width;
        int rows;

        Table() {
            for (int i = 0; i < MOST_COLUMNS; i++) {
                columns[i] = new Column();
            }
        }

        void clear(int columnCount) {
            width = columnCount;
            rows = 0;
            for (Column column : columns) {
                column.become(false);
                column.values[QUESTION] = MISSING;
            }
        }

        boolean hasRow(int row) {
            return isWithin(row, 0, rows - 1);
        }

        boolean hasColumn(int column) {
            return isWithin(column, 0, width - 1);
        }

        long rowBits() {
            return (1L << rows) - 1;
        }

        int columnBits() {
            return (1 << width) - 1;
        }

        int newRow(int target) {
            targets[rows] = target;
            for (Column column : columns) {
                column.values[rows] = MISSING;
            }
            return rows++;
        }
    }

    /** What the next rounds go by. */
    private static final class Plan {
        int depth;
        int least;
        int weight;
        int rateUpper;
        int rateLower;
        /** Bits of rows and columns that are not there (yet) may be set, too. */
        long sampleBits;
        int choiceBits;

        void clear() {
            depth = 2;
            least = 1;
            weight = 0;
            rateUpper = 1;
            rateLower = 2;
            sampleBits = -1L;
            choiceBits = -1;
        }
    }

    private static final class Node {
        int column;
        /** The edge, or the bits of the kinds that go to the left. */
        int mark;
        boolean ofKinds;
        boolean missingLeft;
        int left;
        int right;
        int rows;
        int depth;
        /** Of the residuals, over the product of the scales of all trees before. */
        final Whole sum = new Whole(WORDS);

        void becomeLeaf() {
            column = NONE;
            mark = 0;
            ofKinds = false;
            missingLeft = false;
            left = NONE;
            right = NONE;
        }

        boolean sendsLeft(int value) {
            if (value == MISSING) {
                return missingLeft;
            }
            return ofKinds ? isKind(value) && (mark >> value & 1) == 1 : value < mark;
        }
    }

    private static final class Tree {
        /** Nodes are made once and used again; only the first nodeCount of them stand. */
        final ArrayList<Node> nodes = new ArrayList<>();
        int nodeCount;
        int weight;
        int rateUpper;
        int rateLower;
        /** The least number that makes the leaves' values whole over the product of all scales up to this one. */
        long scale;

        Node at(int i) {
            return nodes.get(i);
        }

        int newLeaf(int rows, int depth) {
            if (nodeCount == nodes.size()) {
                nodes.add(new Node());
            }
            Node node = nodes.get(nodeCount);
            node.becomeLeaf();
            node.rows = rows;
            node.depth = depth;
            return nodeCount++;
        }

        /** A leaf keeps its sum alone, so the plan that makes a value of it must stay with the tree. */
        void settle(Plan plan) {
            weight = plan.weight;
            rateUpper = plan.rateUpper;
            rateLower = plan.rateLower;
            scale = 1;
            for (int i = 0; i < nodeCount; i++) {
                Node node = nodes.get(i);
                if (node.column == NONE) {
                    int under = rateLower * (node.rows + weight);
                    long needed = under / greatestDivisor(under, (long) rateUpper * node.sum.rest(under));
                    scale = scale / greatestDivisor(scale, needed) * needed;
                }
            }
        }

        /** The leaf's value, over the product of all scales up to this tree's. */
        void setToValue(Whole value, Node leaf) {
            int under = rateLower * (leaf.rows + weight);
            long shared = greatestDivisor(rateUpper * scale, under);
            value.set(leaf.sum);
            value.times(rateUpper * scale / shared);
            value.divide((int) (under / shared));
        }

        Node leafOf(Column[] columns, int row) {
            Node node = nodes.get(0);
            for (int depth = 0; depth < MOST_DEPTH && node.column != NONE; depth++) {
                boolean goesLeft = node.sendsLeft(columns[node.column].values[row]);
                node = nodes.get(goesLeft ? node.left : node.right);
            }
            return node;
        }

        int splitsOf(int column) {
            int found = 0;
            for (int i = 0; i < nodeCount; i++) {
                if (nodes.get(i).column == column) {
                    found++;
                }
            }
            return found;
        }
    }

    /** Some rows of a node, and the sum of their residuals. */
    private static final class Group {
        long rows;
        final Whole sum = new Whole(WORDS);

        void clear() {
            rows = 0;
            sum.set(0);
        }

        void takeIn(long more, Whole theirSum) {
            rows |= more;
            sum.plus(theirSum, false);
        }

        void become(Group other) {
            rows = other.rows;
            sum.set(other.sum);
        }
    }

    /** A way to part a node's rows, and what it is worth. */
    private static final class Split {
        int column;
        int mark;
        boolean ofKinds;
        boolean missingLeft;
        long leftRows;
        /** Both sides' squares, over worthUnder. */
        final Whole worth = new Whole(SQUARE_WORDS);
        int worthUnder;
    }

    /** Grows a tree, node by node. */
    private static final class Grower {
        final Table table;
        final Plan plan;
        final Whole[] residuals;
        /** One for each bin. */
        final Group[] groups = new Group[KINDS];
        final int[] order = new int[KINDS];
        final Group missing = new Group();
        final Group below = new Group();
        final Group side = new Group();
        final Whole otherSide = new Whole(WORDS);
        final Whole scaled = new Whole(SQUARE_WORDS);
        final Whole otherScaled = new Whole(SQUARE_WORDS);
        Split best = new Split();
        Split tried = new Split();

        Grower(Table table, Plan plan, Whole[] residuals) {
            this.table = table;
            this.plan = plan;
            this.residuals = residuals;
            for (int i = 0; i < KINDS; i++) {
                groups[i] = new Group();
            }
        }

        /** The node of these rows, with all behind it: which one it is. */
        private int grow(Tree tree, long rows, int depth) {
            int which = tree.newLeaf(Long.bitCount(rows), depth);
            Node node = tree.at(which);
            sumUp(rows, node.sum);
            if (depth < plan.depth && depth < MOST_DEPTH && findSplit(node, rows)) {
                node.column = best.column;
                node.mark = best.mark;
                node.ofKinds = best.ofKinds;
                node.missingLeft = best.missingLeft;
                long leftRows = best.leftRows;
                node.left = grow(tree, leftRows, depth + 1);
                node.right = grow(tree, rows & ~leftRows, depth + 1);
            }
            return which;
        }

        private void sumUp(long rows, Whole sum) {
            sum.set(0);
            for (int row = 0; row < table.rows; row++) {
                if ((rows >> row & 1) == 1) {
                    sum.plus(residuals[row], false);
                }
            }
        }

        /** Whether there is a split with a gain above 0; the best one is in best then. */
        private boolean findSplit(Node node, long rows) {
            best.column = NONE;
            for (int i = 0; i < table.width; i++) {
                if ((plan.choiceBits >> i & 1) == 1) {
                    tryColumn(i, node, rows);
                }
            }
            if (best.column == NONE) {
                return false;
            }
            scaled.set(best.worth);
            scaled.times(node.rows + plan.weight);
            otherScaled.setProduct(node.sum, node.sum);
            otherScaled.times(best.worthUnder);
            return scaled.compare(otherScaled) > 0;
        }

        private void tryColumn(int which, Node node, long rows) {
            Column column = table.columns[which];
            gather(column, rows);
            int parts = column.ofKinds ? orderKinds() : orderBins(column.edgeCount + 1);
            int kindBits = 0;
            below.clear();
            for (int k = 1; k < parts; k++) {
                Group next = groups[order[k - 1]];
                // An empty bin parts the rows as the edge before it did, and of equal gains the first is taken.
                if (k > 1 && next.rows == 0) {
                    continue;
                }
                below.takeIn(next.rows, next.sum);
                kindBits |= 1 << order[k - 1];
                int mark = column.ofKinds ? kindBits : column.edges[k - 1];
                side.become(below);
                side.takeIn(missing.rows, missing.sum);
                consider(node, which, mark, side, true);
                if (missing.rows != 0) {
                    consider(node, which, mark, below, false);
                }
            }
        }

        private void gather(Column column, long rows) {
            missing.clear();
            for (Group group : groups) {
                group.clear();
            }
            for (int row = 0; row < table.rows; row++) {
                if ((rows >> row & 1) == 1) {
                    int value = column.values[row];
                    Group group = value == MISSING ? missing : groups[column.binOf(value)];
                    group.takeIn(1L << row, residuals[row]);
                }
            }
        }

        private int orderBins(int bins) {
            for (int i = 0; i < bins; i++) {
                order[i] = i;
            }
            return bins;
        }

        /** The kinds that rows have, by their means rising: how many they are. */
        private int orderKinds() {
            int found = 0;
            for (int kind = 0; kind < KINDS; kind++) {
                if (groups[kind].rows != 0) {
                    int at = found++;
                    for (; at > 0 && isBefore(groups[kind], groups[order[at - 1]]); at--) {
                        order[at] = order[at - 1];
                    }
                    order[at] = kind;
                }
            }
            return found;
        }

        private boolean isBefore(Group one, Group other) {
            scaled.set(one.sum);
            scaled.times(Long.bitCount(other.rows) + plan.weight);
            otherScaled.set(other.sum);
            otherScaled.times(Long.bitCount(one.rows) + plan.weight);
            return scaled.compare(otherScaled) < 0;
        }

        private void consider(Node node, int column, int mark, Group left, boolean missingLeft) {
            int leftCount = Long.bitCount(left.rows);
            int rightCount = node.rows - leftCount;
            if (leftCount < plan.least || rightCount < plan.least) {
                return;
            }
            int underLeft = leftCount + plan.weight;
            int underRight = rightCount + plan.weight;
            otherSide.set(node.sum);
            otherSide.plus(left.sum, true);
            setToSides(tried.worth, left.sum, underLeft, otherSide, underRight, scaled);
            tried.worthUnder = underLeft * underRight;
            if (best.column == NONE || isBetter()) {
                tried.column = column;
                tried.mark = mark;
                tried.ofKinds = table.columns[column].ofKinds;
                tried.missingLeft = missingLeft;
                tried.leftRows = left.rows;
                Split free = best;
                best = tried;
                tried = free;
            }
        }

        private boolean isBetter() {
            scaled.set(tried.worth);
            scaled.times(best.worthUnder);
            otherScaled.set(best.worth);
            otherScaled.times(tried.worthUnder);
            return scaled.compare(otherScaled) > 0;
        }
    }

    /** The bytes of the fraction that was written last. */
    private static final class Out {
        final byte[] bytes = new byte[2 + 2 * 9 * SQUARE_WORDS];
        int length;
        /** The fraction to be written; the upper part stands in an array because reduce() takes one. */
        final Whole[] upper = {new Whole(SQUARE_WORDS)};
        final Whole lower = new Whole(SQUARE_WORDS);

        int write() {
            reduce(upper, 1, lower);
            length = 0;
            if (upper[0].sign() < 0) {
                append('-');
            }
            appendDigits(upper[0]);
            if (lower.length > 1 || lower.words[0] != 1) {
                append('/');
                appendDigits(lower);
            }
            return length;
        }

        private void appendDigits(Whole whole) {
            int start = length;
            for (int i = whole.length - 1; i >= 0; i--) {
                for (int unit = 100000000; unit > 0; unit /= 10) {
                    int digit = whole.words[i] / unit % 10;
                    if (digit != 0 || length > start) {
                        append('0' + digit);
                    }
                }
            }
            if (length == start) {
                append('0');
            }
        }

        private void append(int character) {
            if (length < bytes.length) {
                bytes[length++] = (byte) character;
            }
        }
    }
}
