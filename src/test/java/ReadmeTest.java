import java.io.ByteArrayOutputStream;
import java.io.File;
import java.io.IOException;
import java.io.PrintStream;
import java.nio.file.Files;
import java.nio.file.Path;

/** The example in README.md compiles, runs and prints what README.md says; its list of tests is whole. */
public final class ReadmeTest {
    private static final Path README = Path.of("README.md"), COMMAND = Path.of(".ci/run");

    public static void main(String[] args) throws IOException, ReflectiveOperationException {
        String readme = Files.readString(README);
        String printed = printedBy(block(readme, "java"));
        String due = block(readme, "text");
        if (!printed.equals(due)) {
            Check.say("the example printed\n" + printed + "due is\n" + due);
        }
        if (!readme.contains("```sh\n" + COMMAND + "\n```") || !Files.isExecutable(COMMAND)) {
            Check.say("README.md does not name " + COMMAND + ", or it can't be run");
        }
        namesAllTests(readme);
        Check.end();
    }

    /** The lines of the only block of this language. */
    private static String block(String readme, String language) {
        String[] parts = readme.split("```" + language + "\n", -1);
        if (parts.length != 2 || !parts[1].contains("```")) {
            Check.say("README.md has not one block of " + language);
            Check.end();
        }
        return parts[1].substring(0, parts[1].indexOf("```"));
    }

    private static String printedBy(String example) throws IOException, ReflectiveOperationException {
        Class<?> compiled = Compiled.from("Example", example, ReadmeTest.class.getClassLoader());
        PrintStream before = System.out;
        ByteArrayOutputStream printed = new ByteArrayOutputStream();
        System.setOut(new PrintStream(printed, true));
        try {
            compiled.getMethod("main", String[].class).invoke(null, (Object) new String[0]);
        } finally {
            System.setOut(before);
        }
        return printed.toString().replace(System.lineSeparator(), "\n");
    }

    private static void namesAllTests(String readme) {
        for (String name : new File("src/test/java").list()) {
            String test = name.replace(".java", "");
            if (test.endsWith("Test") && !readme.contains("`" + test + "`")) {
                Check.say("README.md does not name " + test);
            }
        }
    }
}
