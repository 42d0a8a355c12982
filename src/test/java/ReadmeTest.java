import java.io.ByteArrayOutputStream;
import java.io.File;
import java.io.IOException;
import java.io.PrintStream;
import java.lang.reflect.Method;
import java.lang.reflect.Modifier;
import java.net.URL;
import java.net.URLClassLoader;
import java.nio.file.Files;
import java.nio.file.Path;
import java.util.regex.Matcher;
import java.util.regex.Pattern;
import javax.tools.ToolProvider;

/** What README.md says: its example prints what stands behind it, each call has its row with its refusals. */
public final class ReadmeTest {
    private static final Due due = new Due();

    public static void main(String[] args) throws Exception {
        String page = Files.readString(Path.of("README.md"));
        example(page);
        calls(page);
        due.end();
    }

    private static String block(String page, String kind) {
        Matcher found = Pattern.compile("(?s)```" + kind + "\n(.*?)```").matcher(page);
        return found.find() ? found.group(1) : "";
    }

    private static void example(String page) throws Exception {
        due.about("the example");
        Path folder = Files.createTempDirectory("readme");
        Path source = folder.resolve("Example.java");
        Files.writeString(source, block(page, "java"));
        int failed = ToolProvider.getSystemJavaCompiler().run(null, null, null, "-encoding", "UTF-8", "-cp",
            System.getProperty("java.class.path"), "-d", folder.toString(), source.toString());
        due.is("javac", failed, 0);
        if (failed == 0) {
            due.same("java Example", printed(folder), block(page, "text"));
        }
        for (File file : folder.toFile().listFiles()) {
            Files.delete(file.toPath());
        }
        Files.delete(folder);
    }

    private static String printed(Path folder) throws Exception {
        PrintStream before = System.out;
        ByteArrayOutputStream bytes = new ByteArrayOutputStream();
        try (URLClassLoader loader = new URLClassLoader(new URL[] {folder.toUri().toURL()})) {
            System.setOut(new PrintStream(bytes, true));
            loader.loadClass("Example").getMethod("main", String[].class).invoke(null, (Object) new String[0]);
        } finally {
            System.setOut(before);
        }
        return bytes.toString().replace("\r\n", "\n");
    }

    /** The refusals that a row names are those that the document's promise names. */
    private static void calls(String page) throws IOException {
        String document = Files.readString(Path.of("../shared/DOC.md"));
        for (Method m : LowWater.class.getDeclaredMethods()) {
            if (!Modifier.isPublic(m.getModifiers())) {
                continue;
            }
            due.about("the row of " + m.getName());
            Matcher row = Pattern.compile("\\| `" + m.getName() + "\\(([^)]*)\\)` \\|.*").matcher(page);
            boolean there = row.find();
            due.is("is there", there ? 1 : 0, 1);
            if (!there) {
                continue;
            }
            int named = row.group(1).isEmpty() ? 0 : row.group(1).split(", ").length;
            due.is("what it is called with", named, m.getParameterCount());
            Matcher promise = Pattern.compile("## Promise \\d+: " + m.getName() + "\n\n(.*)").matcher(document);
            due.is("its promise", promise.find() ? 1 : 0, 1);
            for (String refusal : new String[] {"NONE", "BAD", "STATE", "FULL", "NO"}) {
                Pattern word = Pattern.compile("\\b" + refusal + "\\b");
                due.is("names " + refusal, word.matcher(row.group()).find() ? 1 : 0,
                    word.matcher(promise.group(1)).find() ? 1 : 0);
            }
        }
    }
}
