import java.io.ByteArrayOutputStream;
import java.io.IOException;
import java.io.PrintStream;
import java.lang.reflect.Method;
import java.net.URI;
import java.net.URL;
import java.net.URLClassLoader;
import java.nio.charset.StandardCharsets;
import java.nio.file.Files;
import java.nio.file.Path;
import java.util.List;
import javax.tools.JavaCompiler;
import javax.tools.JavaFileObject;
import javax.tools.SimpleJavaFileObject;
import javax.tools.ToolProvider;

/** The example of README.md, compiled as it stands there, prints what stands below it. */
public final class ReadmeTest extends Checks {
    public static void main(String[] args) throws Exception {
        String readme = Files.readString(Path.of("README.md"), StandardCharsets.UTF_8);
        String example = block(readme, "java");
        String want = block(readme, "text");
        String got = run(example);
        due("the example of README.md", want, () -> got);
        end();
    }

    /** The first block of that kind; words that neither compile nor are printed if there is none. */
    private static String block(String readme, String kind) {
        String opening = "```" + kind + "\n";
        int start = readme.indexOf(opening);
        int end = readme.indexOf("```\n", start + opening.length());
        if (start < 0 || end < 0) {
            return "no block of " + kind;
        }
        return readme.substring(start + opening.length(), end);
    }

    private static String run(String example) throws Exception {
        Path out = Files.createTempDirectory("readme");
        try {
            if (!compile("class Example { public static void main(String[] args) {\n" + example + "} }\n", out)) {
                return "it does not compile";
            }
            return printed(out);
        } finally {
            Files.deleteIfExists(out.resolve("Example.class"));
            Files.deleteIfExists(out);
        }
    }

    private static boolean compile(String text, Path out) throws IOException {
        JavaCompiler compiler = ToolProvider.getSystemJavaCompiler();
        JavaFileObject file = new SimpleJavaFileObject(URI.create("string:///Example.java"), JavaFileObject.Kind.SOURCE) {
            @Override
            public CharSequence getCharContent(boolean ignoreEncodingErrors) {
                return text;
            }
        };
        List<String> options = List.of("-d", out.toString(), "-cp", System.getProperty("java.class.path"));
        return compiler.getTask(null, null, null, options, null, List.of(file)).call();
    }

    private static String printed(Path out) throws Exception {
        PrintStream before = System.out;
        ByteArrayOutputStream text = new ByteArrayOutputStream();
        try (URLClassLoader loader = new URLClassLoader(new URL[] {out.toUri().toURL()})) {
            Method main = loader.loadClass("Example").getDeclaredMethod("main", String[].class);
            main.setAccessible(true);
            System.setOut(new PrintStream(text, true, StandardCharsets.UTF_8));
            main.invoke(null, (Object) new String[0]);
        } finally {
            System.setOut(before);
        }
        return text.toString(StandardCharsets.UTF_8).replace(System.lineSeparator(), "\n");
    }
}
