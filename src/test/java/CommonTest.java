import java.io.IOException;
import java.lang.reflect.InvocationTargetException;
import java.lang.reflect.Method;
import java.nio.file.Files;
import java.nio.file.Path;

/**
 * "If it has more than 1,500 bits behind a round, the tree of that round is taken away again, and training ends."
 * No run comes to so many bits: a round makes COMMON at most 41 bits longer, and there are 16. So the program is
 * compiled once more with a limit of 10 bits in this one's place, and the sentence is tested there.
 */
public final class CommonTest {
    private static final String LIMIT = "\\b1_?500\\b", LOW_LIMIT = "10";

    /** An object of the class with the low limit. */
    private final Object trees;

    private CommonTest(Class<?> lowered) throws ReflectiveOperationException {
        trees = lowered.getConstructor().newInstance();
    }

    public static void main(String[] args) throws IOException, ReflectiveOperationException {
        Path source = Path.of("src/main/java/ResidualTrees.java");
        String program = Files.readString(source);
        String lowered = program.replaceAll(LIMIT, LOW_LIMIT);
        if (lowered.equals(program)) {
            Check.say("the limit of 1,500 bits does not stand in " + source);
            Check.end();
        }
        // The parent must not know the program as it is.
        Class<?> compiled = Compiled.from("ResidualTrees", lowered, ClassLoader.getPlatformClassLoader());
        new CommonTest(compiled).treeIsTakenAway();
        new CommonTest(compiled).trainingEnds();
        Check.end();
    }

    private long call(String name, Object... arguments) {
        for (Method method : trees.getClass().getMethods()) {
            if (method.getName().equals(name)) {
                return answer(method, arguments);
            }
        }
        throw new IllegalStateException("there is no " + name);
    }

    private long answer(Method method, Object... arguments) {
        try {
            Object answer = method.invoke(trees, arguments);
            return answer instanceof Integer ? (Integer) answer : 0;
        } catch (InvocationTargetException e) {
            throw (RuntimeException) e.getCause();
        } catch (IllegalAccessException e) {
            throw new IllegalStateException(e);
        }
    }

    /** Each round halves what is left: COMMON has k + 1 bits behind k rounds, so ten bits are still fine. */
    private void treeIsTakenAway() {
        call("add", 1);
        Check.same("train(9)", call("train", 9), 9);
        Check.same("ten bits", call("count", 3), 10);
        Check.same("train(1): the tree goes again", call("train", 1), 0);
        Check.same("trees", call("count", 2), 9);
        Check.same("still ten bits", call("count", 3), 10);
        Check.badArgument("nodes(9)", () -> call("nodes", 9));
        Check.same("residual: 1/512", call("residual", 0, 9), 5);
        Check.badArgument("residual by ten", () -> call("residual", 0, 10));
        call("rate", 1, 1);
        Check.same("a tree that leaves nothing stays", call("train", 1), 1);
        Check.same("one bit", call("count", 3), 1);
        Check.same("trees", call("count", 2), 10);
    }

    /** All rounds at once: those that come to ten bits stay, the others are not tried any more. */
    private void trainingEnds() {
        call("add", 1);
        Check.same("train(16)", call("train", 16), 9);
        Check.same("trees", call("count", 2), 9);
        Check.badState("train(8) would still be too many", () -> call("train", 8));
        Check.same("train(7)", call("train", 7), 0);
        call("drop", 4);
        Check.same("train(12)", call("train", 12), 5);
        Check.same("ten bits", call("count", 3), 10);
        // 1 / 512 is left, and 3 / 8 of it leave 5 / 4096.
        call("drop", 9);
        call("rate", 3, 8);
        Check.same("a tree that comes far above", call("train", 1), 0);
        Check.same("trees", call("count", 2), 9);
    }
}
