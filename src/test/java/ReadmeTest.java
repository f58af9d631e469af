import java.io.ByteArrayOutputStream;
import java.io.IOException;
import java.io.PrintStream;
import java.net.URL;
import java.net.URLClassLoader;
import java.nio.file.Files;
import java.nio.file.Path;
import java.util.TreeSet;
import java.util.regex.Matcher;
import java.util.regex.Pattern;
import java.util.stream.Stream;
import javax.tools.ToolProvider;

/** What README.md says is so: its example prints what it says, and it names the tests, classes and calls there are. */
public final class ReadmeTest {
    private static final Path TESTS = Path.of("src/test/java");

    public static void main(String[] args) throws Exception {
        String readme = Files.readString(Path.of("README.md"));
        if (ToolProvider.getSystemJavaCompiler() == null) {
            System.out.println("the example is not compiled: this java has no compiler in it");
        } else {
            Check.same("the example's output", block(readme, "text"), outputOf(block(readme, "java")));
        }
        namesEachTest(readme);
        namesEachClass(readme);
        namesEachCall(readme);
        Check.same("runs .ci/run", 1, readme.contains("```sh\n.ci/run\n```") ? 1 : 0);
        Check.same(".ci/run can be run", 1, Files.isExecutable(Path.of(".ci/run")) ? 1 : 0);
        Check.finish();
    }

    private static String block(String readme, String language) {
        Matcher m = Pattern.compile("```" + language + "\n(.*?)```", Pattern.DOTALL).matcher(readme);
        return m.find() ? m.group(1) : "";
    }

    private static String outputOf(String example) throws Exception {
        Path folder = Files.createTempDirectory("readme");
        Path file = folder.resolve("Example.java");
        Files.writeString(file, example);
        String path = System.getProperty("java.class.path");
        ByteArrayOutputStream told = new ByteArrayOutputStream();
        int code = ToolProvider.getSystemJavaCompiler().run(null, told, told, "-cp", path, "-d", folder.toString(),
                file.toString());
        Check.same("the example compiles: " + told, 0, code);
        String output = code == 0 ? run(folder) : "";
        deleteAll(folder);
        return output;
    }

    private static String run(Path folder) throws Exception {
        PrintStream before = System.out;
        ByteArrayOutputStream output = new ByteArrayOutputStream();
        try (URLClassLoader loader = new URLClassLoader(new URL[] {folder.toUri().toURL()})) {
            System.setOut(new PrintStream(output, true));
            loader.loadClass("Example").getMethod("main", String[].class).invoke(null, (Object) new String[0]);
        } finally {
            System.setOut(before);
        }
        return output.toString().replace(System.lineSeparator(), "\n");
    }

    private static void deleteAll(Path folder) throws IOException {
        try (Stream<Path> files = Files.list(folder)) {
            for (Path file : files.toList()) {
                Files.delete(file);
            }
        }
        Files.delete(folder);
    }

    private static TreeSet<String> found(String readme, String pattern) {
        TreeSet<String> names = new TreeSet<>();
        Matcher m = Pattern.compile(pattern).matcher(readme);
        while (m.find()) {
            names.add(m.group(1));
        }
        return names;
    }

    private static void namesEachTest(String readme) throws IOException {
        TreeSet<String> there = new TreeSet<>();
        try (Stream<Path> files = Files.list(TESTS)) {
            for (Path file : files.toList()) {
                String name = file.getFileName().toString();
                if (name.endsWith("Test.java")) {
                    there.add(name.substring(0, name.length() - 5));
                }
            }
        }
        Check.same("tests that are named", there.toString(), found(readme, "`([A-Z]\\w+Test)`").toString());
    }

    private static void namesEachClass(String readme) {
        TreeSet<String> there = new TreeSet<>();
        for (Class<?> c : TileChoice.class.getDeclaredClasses()) {
            there.add(c.getSimpleName());
        }
        int from = Math.max(0, readme.indexOf("## How it is built"));
        int to = Math.max(from, readme.indexOf("## How to run its tests"));
        String built = readme.substring(from, to);
        Check.same("classes that are named", there.toString(), found(built, "`([A-Z]\\w+)`").toString());
    }

    private static void namesEachCall(String readme) {
        TreeSet<String> there = new TreeSet<>();
        for (java.lang.reflect.Method m : TileChoice.class.getDeclaredMethods()) {
            if (java.lang.reflect.Modifier.isPublic(m.getModifiers())) {
                there.add(m.getName());
            }
        }
        String table = String.join("\n", found(readme, "(?m)^(\\| `.*)$"));
        Check.same("calls that are named", there.toString(), found(table, "`([a-z]+)\\(").toString());
    }
}
