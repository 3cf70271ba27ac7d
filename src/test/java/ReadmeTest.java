import java.io.ByteArrayOutputStream;
import java.io.IOException;
import java.io.PrintStream;
import java.lang.reflect.Field;
import java.lang.reflect.Method;
import java.lang.reflect.Modifier;
import java.net.URL;
import java.net.URLClassLoader;
import java.nio.charset.StandardCharsets;
import java.nio.file.Files;
import java.nio.file.Path;
import java.util.Comparator;
import java.util.List;
import java.util.regex.Matcher;
import java.util.regex.Pattern;
import java.util.stream.Collectors;
import java.util.stream.Stream;
import javax.tools.JavaCompiler;
import javax.tools.ToolProvider;

/** What README.md says: it names the whole face, and its example gives the output that it shows. */
public final class ReadmeTest {
    private static final Checks CHECKS = new Checks();

    public static void main(String[] args) throws Exception {
        String page = Files.readString(Path.of("README.md"));
        face(page);
        files(page);
        example(page);
        CHECKS.end("ReadmeTest");
    }

    private static void holds(String what, boolean holds) {
        CHECKS.due(what, holds ? 1 : 0, 1);
    }

    private static void face(String page) {
        for (Method m : WaysAtlas.class.getDeclaredMethods()) {
            if (Modifier.isPublic(m.getModifiers())) {
                Matcher row = Pattern.compile("\n\\| `" + m.getName() + "\\((.*?)\\)` \\| .+ \\|\n").matcher(page);
                holds("README.md tells of " + m.getName(), row.find());
                int arguments = row.group(1).isEmpty() ? 0 : row.group(1).split(", ").length;
                CHECKS.due("arguments of " + m.getName(), arguments, m.getParameterCount());
            }
        }
        for (Field f : WaysAtlas.class.getDeclaredFields()) {
            if (Modifier.isPublic(f.getModifiers())) {
                holds("README.md tells of " + f.getName(), page.contains("`" + f.getName() + "`"));
            }
        }
    }

    /** Each test is named, and each test that is named is there. */
    private static void files(String page) throws IOException {
        try (Stream<Path> all = Files.list(Path.of("src/test/java"))) {
            for (String name : all.map(p -> p.getFileName().toString()).filter(s -> s.endsWith("Test.java"))
                    .collect(Collectors.toList())) {
                holds("README.md names " + name, page.contains("`" + name.substring(0, name.length() - 5) + "`"));
            }
        }
        Matcher named = Pattern.compile("\\w+Test\\b").matcher(page);
        while (named.find()) {
            holds(named.group() + " is there", Files.exists(Path.of("src/test/java/" + named.group() + ".java")));
        }
        holds("README.md tells how to run the tests", page.contains("\n    .ci/run\n"));
    }

    private static String block(String page, String sort) {
        Matcher m = Pattern.compile("\n```" + sort + "\n(.*?)```\n", Pattern.DOTALL).matcher(page);
        if (!m.find()) {
            throw new IllegalStateException("README.md has no block of " + sort);
        }
        return m.group(1);
    }

    private static void example(String page) throws Exception {
        Path made = Files.createTempDirectory("readme");
        try {
            Path source = made.resolve("Example.java");
            Files.writeString(source, block(page, "java"));
            JavaCompiler compiler = ToolProvider.getSystemJavaCompiler();
            if (compiler == null) {
                throw new IllegalStateException("there is no javac");
            }
            CHECKS.due("compiling the example", compiler.run(null, null, null, "-Xlint:all", "-Werror", "-cp",
                    System.getProperty("java.class.path"), "-d", made.toString(), source.toString()), 0);
            List<String> got = output(made).lines().collect(Collectors.toList());
            List<String> want = block(page, "text").lines().collect(Collectors.toList());
            CHECKS.due("lines of the example's output", got.size(), want.size());
            for (int i = 0; i < Math.min(got.size(), want.size()); i++) {
                holds("the example prints \"" + got.get(i) + "\" where README.md shows \"" + want.get(i) + "\"",
                        got.get(i).equals(want.get(i)));
            }
        } finally {
            remove(made);
        }
    }

    private static String output(Path made) throws Exception {
        PrintStream kept = System.out;
        ByteArrayOutputStream bytes = new ByteArrayOutputStream();
        try (URLClassLoader loader = new URLClassLoader(new URL[] {made.toUri().toURL()})) {
            Method main = loader.loadClass("Example").getMethod("main", String[].class);
            System.setOut(new PrintStream(bytes, true, StandardCharsets.US_ASCII));
            main.invoke(null, (Object) new String[0]);
        } finally {
            System.out.flush();
            System.setOut(kept);
        }
        return bytes.toString(StandardCharsets.US_ASCII);
    }

    private static void remove(Path directory) throws IOException {
        try (Stream<Path> all = Files.walk(directory)) {
            for (Path p : all.sorted(Comparator.reverseOrder()).collect(Collectors.toList())) {
                Files.delete(p);
            }
        }
    }
}
