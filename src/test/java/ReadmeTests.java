import java.io.ByteArrayOutputStream;
import java.io.File;
import java.io.IOException;
import java.io.PrintStream;
import java.lang.reflect.Method;
import java.lang.reflect.Modifier;
import java.net.URL;
import java.net.URLClassLoader;
import java.nio.file.Files;
import java.nio.file.Path;
import java.util.ArrayList;
import java.util.List;
import javax.tools.ToolProvider;

/** README.md tells what holds: its example runs as it stands, and it names each call of the class and each test. */
public final class ReadmeTests extends Checks {
    private static String readme = "";

    /** What stands between a line that opens a block of this kind and the line that closes it. */
    private static List<String> blocks(String kind) {
        List<String> found = new ArrayList<>();
        StringBuilder block = null;
        for (String line : readme.split("\n")) {
            if (block == null && line.equals("```" + kind)) {
                block = new StringBuilder();
            } else if (block != null && line.equals("```")) {
                found.add(block.toString());
                block = null;
            } else if (block != null) {
                block.append(line).append('\n');
            }
        }
        return found;
    }

    private static String outputOf(Path classes) throws Exception {
        PrintStream screen = System.out;
        ByteArrayOutputStream output = new ByteArrayOutputStream();
        URL[] places = {classes.toUri().toURL()};
        try (URLClassLoader loader = new URLClassLoader(places, ReadmeTests.class.getClassLoader())) {
            Method main = loader.loadClass("Example").getMethod("main", String[].class);
            System.setOut(new PrintStream(output, true));
            main.invoke(null, (Object) new String[0]);
        } finally {
            System.setOut(screen);
        }
        return output.toString().replace(System.lineSeparator(), "\n");
    }

    private static String compiledAndRun(String program) throws Exception {
        Path work = Files.createTempDirectory("readme");
        Path source = work.resolve("Example.java");
        try {
            Files.writeString(source, program);
            int exit = ToolProvider.getSystemJavaCompiler().run(null, null, null, "-Xlint:all", "-Werror",
                    "-cp", System.getProperty("java.class.path"), "-d", work.toString(), source.toString());
            due("the compiler's exit code", exit, 0);
            return exit == 0 ? outputOf(work) : "";
        } finally {
            for (File each : work.toFile().listFiles()) {
                each.delete();
            }
            work.toFile().delete();
        }
    }

    private static void theExampleRuns() {
        due("examples", blocks("java").size(), 1);
        due("outputs", blocks("text").size(), 1);
        try {
            String printed = compiledAndRun(blocks("java").get(0));
            due("the example prints what is said, and not:\n" + printed, printed.equals(blocks("text").get(0)), true);
        } catch (Exception e) {
            throw new IllegalStateException(e);
        }
    }

    private static void eachCallIsTold() {
        for (Method each : GliderDay.class.getDeclaredMethods()) {
            if (Modifier.isPublic(each.getModifiers())) {
                due(each.getName() + " is told", readme.contains("`" + each.getName() + "("), true);
            }
        }
        due("how an object is made is told", readme.contains("`new GliderDay()`"), true);
    }

    private static void eachTestIsTold() {
        String[] tests = new File("src/test/java").list();
        due("there are tests", tests != null && tests.length > 0, true);
        for (String each : tests) {
            due(each + " is told", readme.contains("`src/test/java/" + each + "`"), true);
        }
        due("the script that runs them is told", readme.contains("    .ci/run\n"), true);
    }

    public static void main(String[] args) throws IOException {
        readme = Files.readString(Path.of("README.md"));
        test("the example runs and prints what is said", ReadmeTests::theExampleRuns);
        test("each call of the class is told", ReadmeTests::eachCallIsTold);
        test("each test is told", ReadmeTests::eachTestIsTold);
        finish();
    }
}
