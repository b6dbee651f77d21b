import java.io.IOException;
import java.lang.reflect.Method;
import java.lang.reflect.Modifier;
import java.nio.file.Files;
import java.nio.file.Path;
import java.util.regex.Pattern;

/** README.md tells every call with what it does, answers and refuses, and every test; its example does what it says. */
public final class ReadmeTest {
    private static final Path README = Path.of("README.md");
    private static final Path TESTS = Path.of("src/test/java");
    private static final Check CHECK = new Check("ReadmeTest");

    public static void main(String[] args) throws IOException {
        String readme = Files.readString(README);
        tellsEveryCall(readme);
        tellsEveryTest(readme);
        example();
        CHECK.end();
    }

    private static void tellsEveryCall(String readme) {
        for (Method method : RotorBench.class.getDeclaredMethods()) {
            if (Modifier.isPublic(method.getModifiers())) {
                String taken = method.getParameterCount() == 0 ? "" : "\\w+(, \\w+){" + (method.getParameterCount() - 1) + "}";
                String row = "\\| `" + method.getName() + "\\(" + taken + "\\)`( \\| [^|]+){3} \\|";
                CHECK.is("README has a row for " + method.getName(), Pattern.compile(row).matcher(readme).find(), true);
            }
        }
    }

    private static void tellsEveryTest(String readme) throws IOException {
        try (var files = Files.newDirectoryStream(TESTS, "*Test.java")) {
            for (Path file : files) {
                String name = file.getFileName().toString().replace(".java", "");
                CHECK.is("README has a row for " + name, readme.contains("| " + name + " | "), true);
            }
        }
    }

    private static void example() {
        RotorBench bench = new RotorBench();
        CHECK.is("wire", bench.wire(0, 0, 4), 4);
        CHECK.is("notch", bench.notch(0, 16, true), true);
        CHECK.is("fill", bench.fill(0, 0), RotorBench.NONE);
        bench.plug(1, 0, 24);
        CHECK.is("reflects", bench.reflects(true), true);
        CHECK.is("rule", bench.rule(1), 0);
        int message = bench.open();
        CHECK.is("open", message, 0);
        CHECK.is("key", bench.key(7), 7);
        CHECK.is("close", bench.close(), 1);
        CHECK.is("replay", bench.replay(message), RotorBench.NONE);
        CHECK.is("undo", bench.undo(), 0);
    }
}
