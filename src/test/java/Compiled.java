import java.io.File;
import java.io.IOException;
import java.net.URL;
import java.net.URLClassLoader;
import java.nio.file.Files;
import java.nio.file.Path;
import javax.tools.ToolProvider;

/** Classes that a test compiles while it runs. */
final class Compiled {
    private Compiled() {
    }

    /** A class of this source; the parent has those that it uses. */
    static Class<?> from(String name, String source, ClassLoader parent) throws IOException, ReflectiveOperationException {
        Path work = Files.createTempDirectory("compiled");
        Path file = Files.writeString(work.resolve(name + ".java"), source);
        int failed = ToolProvider.getSystemJavaCompiler().run(null, null, null, "-cp",
            System.getProperty("java.class.path"), "-d", work.toString(), file.toString());
        Check.same("javac of " + name, failed, 0);
        deleteOnExit(work.toFile());
        return new URLClassLoader(new URL[] {work.toUri().toURL()}, parent).loadClass(name);
    }

    /** What is told first goes last: the directory must be empty by then. */
    private static void deleteOnExit(File directory) {
        directory.deleteOnExit();
        for (File made : directory.listFiles()) {
            made.deleteOnExit();
        }
    }
}
