import java.io.ByteArrayOutputStream;
import java.io.IOException;
import java.io.PrintStream;
import java.net.URL;
import java.net.URLClassLoader;
import java.nio.charset.StandardCharsets;
import java.nio.file.Files;
import java.nio.file.Path;
import java.util.regex.Matcher;
import java.util.regex.Pattern;
import javax.tools.ToolProvider;

/** README.md: its example is a program that writes what stands there, and all it names is there. */
public final class ReadmeTest {
    private static final Path README = Path.of("README.md");
    private static final Path BUILT = Path.of("build", "readme");

    private ReadmeTest() {
    }

    public static void main(String[] args) throws IOException, ReflectiveOperationException {
        String text = Files.readString(README);
        example(block(text, "java"), block(text, "text"));
        commands(text);
        Check.end("ReadmeTest");
    }

    /** The first block of this kind. */
    private static String block(String text, String kind) {
        Matcher m = Pattern.compile("(?s)```" + kind + "\n(.*?)```").matcher(text);
        boolean isThere = m.find();
        Check.due("README.md has a block of " + kind, true, isThere);
        return isThere ? m.group(1) : "";
    }

    private static void example(String program, String due)
            throws IOException, ReflectiveOperationException {
        Files.createDirectories(BUILT);
        Path source = BUILT.resolve("Example.java");
        Files.writeString(source, program);
        int code = ToolProvider.getSystemJavaCompiler().run(null, null, null, "-Xlint:all",
            "-Werror", "-d", BUILT.toString(), "-cp", System.getProperty("java.class.path"),
            source.toString());
        Check.due("the example's compiler", 0, code);
        if (code == 0) {
            Check.due("the example", due, written());
        }
    }

    private static String written() throws IOException, ReflectiveOperationException {
        PrintStream before = System.out;
        ByteArrayOutputStream caught = new ByteArrayOutputStream();
        URL[] places = {BUILT.toUri().toURL()};
        try (URLClassLoader loader = new URLClassLoader(places)) {
            System.setOut(new PrintStream(caught, true, StandardCharsets.UTF_8));
            loader.loadClass("Example").getMethod("main", String[].class)
                .invoke(null, (Object) new String[0]);
        } finally {
            System.setOut(before);
        }
        return caught.toString(StandardCharsets.UTF_8).replace(System.lineSeparator(), "\n");
    }

    private static void commands(String text) {
        Check.due("it tells how to run the tests", true, text.contains("\n.ci/run\n"));
        Matcher m = Pattern.compile("(?:\\.\\./shared|\\.ci|src)/[A-Za-z./]*[A-Za-z]").matcher(text);
        int found = 0;
        while (m.find()) {
            found++;
            Check.due(m.group() + " is there", true, Files.exists(Path.of(m.group())));
        }
        Check.due("files are named", true, found > 0);
    }
}
