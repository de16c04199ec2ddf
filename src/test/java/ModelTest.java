import java.util.Arrays;
import java.util.Random;

/** All promises: runs of calls by chance, always the same ones, each answered as the model answers it. */
public final class ModelTest {
    private static final int MISSING = ResidualTrees.MISSING;
    private static final int MOST_CALLS = 512;
    private static final int[] WILD = {MISSING, MISSING + 1, -1000001, -1001, -2, -1, 0, 5, 6, 7, 8, 11, 12, 13, 16, 17, 25,
        31, 32, 47, 48, 49, 63, 64, 1001, 1000001, Integer.MAX_VALUE - 1, Integer.MAX_VALUE};

    private interface Call<T> {
        long on(T object);
    }

    private final Random random;
    private final ResidualTrees trees = new ResidualTrees();
    private final Model model = new Model();
    private final String run;
    private final int columns;
    private final int spread;
    private final boolean[] ofKinds = new boolean[7];
    private int calls = 0;
    private int rows = 0;

    private ModelTest(long seed) {
        random = new Random(seed);
        run = "run " + seed;
        columns = 1 + random.nextInt(6);
        spread = new int[] {1, 3, 20, 1000000}[random.nextInt(4)];
    }

    /** Without arguments the runs that belong to the tests; else from the first seed to the second. */
    public static void main(String[] args) {
        long first = args.length > 0 ? Long.parseLong(args[0]) : 1;
        long last = args.length > 1 ? Long.parseLong(args[1]) : 100;
        for (long seed = first; seed <= last; seed++) {
            new ModelTest(seed).wholeRun();
        }
        Check.end();
    }

    private void wholeRun() {
        if (i(3) == 0) {
            formerTable();
        }
        begin(columns);
        int most = random.nextInt(4) == 0 ? 48 : 1 + random.nextInt(30);
        for (int i = 0; i < most && calls < 340; i++) {
            addWhole();
        }
        for (int c = 0; c < columns; c++) {
            cut(c);
        }
        while (calls < MOST_CALLS) {
            anyCall();
        }
    }

    /** Calls on the one column of a new object, so that begin() has something to forget. */
    private void formerTable() {
        for (int i = 0; i < 8; i++) {
            add(target());
            put(rows - 1, 0, value(0));
        }
        for (int i = 0; i < 30; i++) {
            anyCall();
        }
    }

    private void begin(int width) {
        both("begin(" + width + ")",
                x -> {
                    x.begin(width);
                    return 0;
                },
                m -> {
                    m.begin(width);
                    Arrays.fill(ofKinds, false);
                    return 0;
                });
        rows = model.count(1);
    }

    private void addWhole() {
        add(chance(30) ? 1001 : target());
        for (int c = 0; c < columns; c++) {
            if (!chance(10)) {
                put(rows - 1, c, value(c));
            }
        }
        if (rows == 1) {
            for (int c = 0; c < columns; c++) {
                kinds(c, i(2) == 0);
            }
        }
    }

    private void anyCall() {
        int which = i(100);
        if (chance(100)) {
            begin(7 * i(2));
        }
        if (which < 4) {
            add(target());
        } else if (which < 12) {
            put(row(), column(), value(column()));
        } else if (which < 15) {
            int row = row();
            int target = target();
            both("target(" + row + ", " + target + ")", x -> x.target(row, target), m -> m.target(row, target));
        } else if (which < 17) {
            kinds(column(), i(3) == 0);
        } else if (which < 22) {
            cut(column());
        } else if (which < 27) {
            edges();
        } else if (which < 38) {
            plans();
        } else if (which < 46) {
            training();
        } else if (which < 66) {
            shapes();
        } else {
            writing();
        }
    }

    private void add(int target) {
        both("add(" + target + ")", x -> x.add(target), m -> m.add(target));
        rows = model.count(1);
    }

    private void put(int row, int column, int value) {
        both("put(" + row + ", " + column + ", " + value + ")", x -> x.put(row, column, value),
                m -> m.put(row, column, value));
    }

    private void kinds(int column, boolean is) {
        both("kinds(" + column + ", " + is + ")", x -> x.kinds(column, is) ? 1 : 0,
                m -> {
                    boolean was = m.kinds(column, is);
                    ofKinds[column] = is;
                    return was ? 1 : 0;
                });
    }

    private void cut(int column) {
        boolean byCount = i(2) == 0;
        int n = chance(40) ? wild() : chance(20) ? 1 + 12 * i(2) : 2 + i(11);
        both("cut(" + column + ", " + byCount + ", " + n + ")", x -> x.cut(column, byCount, n),
                m -> m.cut(column, byCount, n));
    }

    private void edges() {
        int column = column();
        int which = chance(30) ? wild() : i(13) - 1;
        int value = value(column);
        if (i(2) == 0) {
            both("edge(" + column + ", " + which + ")", x -> x.edge(column, which), m -> m.edge(column, which));
        } else {
            both("bin(" + column + ", " + value + ")", x -> x.bin(column, value), m -> m.bin(column, value));
        }
    }

    private void plans() {
        int which = i(3);
        if (which == 0) {
            int depth = chance(60) ? wild() : chance(20) ? 5 * i(2) : 1 + i(4);
            int least = chance(60) ? wild() : chance(20) ? 25 * i(2) : i(2) == 0 ? 1 : 1 + i(i(2) == 0 ? 24 : 4);
            int weight = chance(60) ? wild() : chance(20) ? -1 + 22 * i(2) : i(2) == 0 ? 0 : i(21);
            both("shape(" + depth + ", " + least + ", " + weight + ")",
                    x -> { x.shape(depth, least, weight); return 0; },
                    m -> { m.shape(depth, least, weight); return 0; });
        } else if (which == 1) {
            int q = chance(40) ? wild() : chance(20) ? 17 * i(2) : 1 + i(16);
            int p = chance(40) ? wild() : chance(20) ? (q + 1) * i(2) : 1 + i(Math.max(q, 1));
            both("rate(" + p + ", " + q + ")", x -> { x.rate(p, q); return 0; }, m -> { m.rate(p, q); return 0; });
        } else {
            long bits = bits();
            int choice = i(3) == 0 ? random.nextInt() : -1;
            both("sample(" + bits + ", " + choice + ")", x -> x.sample(bits, choice), m -> m.sample(bits, choice));
        }
    }

    private void training() {
        int which = i(10);
        if (which < 7) {
            int rounds = chance(40) ? wild() : chance(20) ? 17 * i(2) : 1 + i(i(4) == 0 ? 16 : 3);
            both("train(" + rounds + ")", x -> x.train(rounds), m -> m.train(rounds));
        } else {
            int stay = tree() + 1;
            both("drop(" + stay + ")", x -> x.drop(stay), m -> m.drop(stay));
        }
    }

    private void shapes() {
        int tree = tree();
        int column = column();
        int node = chance(30) ? wild() : i(2) == 0 ? i(4) : i(33) - 1;
        int what = chance(30) ? wild() : i(10) - 1;
        int number = chance(30) ? wild() : i(7) - 1;
        switch (i(10)) {
            case 0 -> both("nodes(" + tree + ")", x -> x.nodes(tree), m -> m.nodes(tree));
            case 1 -> both("uses(" + column + ")", x -> x.uses(column), m -> m.uses(column));
            case 2, 3 -> both("count(" + number + ")", x -> x.count(number), m -> m.count(number));
            default -> both("node(" + tree + ", " + node + ", " + what + ")", x -> x.node(tree, node, what),
                    m -> m.node(tree, node, what));
        }
    }

    private void writing() {
        int tree = tree();
        int first = i(3) == 0 ? model.count(2) : tree + 1;
        int row = row();
        int node = chance(30) ? wild() : i(i(2) == 0 ? 3 : 32);
        int column = column();
        int asked = chance(20) ? 1000001 : value(column);
        long bits = bits();
        switch (i(7)) {
            case 0 -> both("tell(" + tree + ", " + node + ")", x -> x.tell(tree, node), m -> m.tell(tree, node));
            case 1 -> both("residual(" + row + ", " + first + ")", x -> x.residual(row, first),
                    m -> m.residual(row, first));
            case 2 -> both("predict(" + first + ")", x -> x.predict(first), m -> m.predict(first));
            case 3 -> both("error(" + bits + ", " + first + ")", x -> x.error(bits, first), m -> m.error(bits, first));
            case 4 -> both("best(" + bits + ")", x -> x.best(bits), m -> m.best(bits));
            default -> both("ask(" + column + ", " + asked + ")", x -> x.ask(column, asked),
                    m -> m.ask(column, asked));
        }
        for (int i = 0; i < 3; i++) {
            int at = chance(30) ? wild() : i(model.count(4) + 3) - 1;
            both("byteAt(" + at + ")", x -> x.byteAt(at), m -> m.byteAt(at));
        }
    }

    private void both(String what, Call<ResidualTrees> call, Call<Model> due) {
        if (calls++ >= MOST_CALLS) {
            return;
        }
        String wanted = answer(due, model);
        String got = answer(call, trees);
        if (!got.equals(wanted)) {
            Check.say(run + ", call " + calls + ": " + what + " answered " + got + ", due is " + wanted);
        }
    }

    private static <T> String answer(Call<T> call, T object) {
        try {
            return Long.toString(call.on(object));
        } catch (RuntimeException e) {
            return "throws." + e.getClass().getSimpleName();
        }
    }

    private int i(int bound) {
        return random.nextInt(bound);
    }

    private boolean chance(int of) {
        return i(of) == 0;
    }

    /** Numbers that are far outside of every range, or just outside of some. */
    private int wild() {
        return WILD[i(WILD.length)];
    }

    private int row() {
        return chance(60) ? wild() : chance(15) ? rows * i(2) - 1 + i(2) : i(Math.max(rows, 1));
    }

    private int column() {
        return chance(60) ? wild() : chance(30) ? columns * i(2) : i(columns);
    }

    private int tree() {
        return chance(60) ? wild() : i(model.count(2) + 2) - 1;
    }

    private int target() {
        return chance(80) ? wild() : i(3) == 0 ? i(11) - 5 : chance(40) ? 1001 * (1 - 2 * i(2)) : i(2001) - 1000;
    }

    private int value(int column) {
        if (chance(20)) {
            return MISSING;
        }
        if (chance(60)) {
            return wild();
        }
        if (column >= 0 && column < columns && ofKinds[column]) {
            return chance(40) ? i(2) * 13 - 1 : i(spread < 12 ? spread + 2 : 12);
        }
        return chance(40) ? 1000001 : i(2) == 0 ? i(spread + 1) : i(2 * spread + 1) - spread;
    }

    private long bits() {
        return switch (i(4)) {
            case 0 -> -1L;
            case 1 -> random.nextLong() | random.nextLong();
            case 2 -> random.nextLong() & random.nextLong();
            default -> random.nextLong() | 1L << i(64);
        };
    }
}
