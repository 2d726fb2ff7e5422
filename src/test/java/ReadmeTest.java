import java.io.ByteArrayOutputStream;
import java.io.IOException;
import java.io.PrintStream;
import java.net.URI;
import java.net.URL;
import java.net.URLClassLoader;
import java.nio.charset.StandardCharsets;
import java.nio.file.Files;
import java.nio.file.Path;
import java.util.List;
import javax.tools.JavaCompiler;
import javax.tools.JavaFileObject;
import javax.tools.SimpleJavaFileObject;
import javax.tools.ToolProvider;

/** The example of README.md prints what README.md says; runs in the project's directory, as .ci/run does it. */
public final class ReadmeTest {
    private static final String FENCE = "```";

    public static void main(String[] args) {
        Check.runAll(ReadmeTest.class);
    }

    /** The text between the fences of the only block of this kind; null unless there is just one. */
    private static String block(String readme, String kind) {
        String opening = "\n" + FENCE + kind + "\n";
        int start = readme.indexOf(opening);
        int end = start < 0 ? -1 : readme.indexOf("\n" + FENCE + "\n", start + opening.length());
        if (end < 0 || readme.indexOf(opening, end) >= 0) {
            return null;
        }
        return readme.substring(start + opening.length(), end + 1);
    }

    private static final class Source extends SimpleJavaFileObject {
        private final String text;

        Source(String text) {
            super(URI.create("string:///Example.java"), Kind.SOURCE);
            this.text = text;
        }

        @Override
        public CharSequence getCharContent(boolean ignoreEncodingErrors) {
            return text;
        }
    }

    private static boolean compiles(String text, Path into) {
        JavaCompiler compiler = ToolProvider.getSystemJavaCompiler();
        List<JavaFileObject> sources = List.of(new Source(text));
        List<String> options = List.of("--release", "17", "-d", into.toString(),
                "-cp", System.getProperty("java.class.path"));
        return compiler.getTask(null, null, null, options, null, sources).call();
    }

    private static String printedBy(Path classes) throws IOException, ReflectiveOperationException {
        PrintStream usual = System.out;
        ByteArrayOutputStream printed = new ByteArrayOutputStream();
        URL[] place = {classes.toUri().toURL()};
        try (URLClassLoader loader = new URLClassLoader(place, ReadmeTest.class.getClassLoader())) {
            System.setOut(new PrintStream(printed, true, StandardCharsets.UTF_8));
            loader.loadClass("Example").getMethod("main", String[].class).invoke(null, (Object) new String[0]);
        } finally {
            System.setOut(usual);
        }
        return printed.toString(StandardCharsets.UTF_8).replace(System.lineSeparator(), "\n");
    }

    // Named like a test of a promise, so that Check finds it: the example shows several of them.
    static void promisesOfTheReadmesExample() throws IOException, ReflectiveOperationException {
        String readme = Files.readString(Path.of("README.md"));
        String example = block(readme, "java");
        String want = block(readme, "text");
        if (example == null || want == null) {
            Check.wrong("README.md has not just one example and one block of what it prints");
            return;
        }
        Path classes = Files.createTempDirectory("readme");
        try {
            if (compiles(example, classes)) {
                String got = printedBy(classes);
                Check.dueTrue("the example prints\n" + got + "due is\n" + want, got.equals(want));
            } else {
                Check.wrong("the example does not compile");
            }
        } finally {
            Files.deleteIfExists(classes.resolve("Example.class"));
            Files.delete(classes);
        }
    }
}
