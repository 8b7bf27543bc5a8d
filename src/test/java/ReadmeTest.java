import java.io.ByteArrayOutputStream;
import java.io.IOException;
import java.io.PrintStream;
import java.lang.reflect.Field;
import java.lang.reflect.Method;
import java.lang.reflect.Modifier;
import java.net.URL;
import java.net.URLClassLoader;
import java.nio.charset.StandardCharsets;
import java.nio.file.Files;
import java.nio.file.Path;
import java.util.Arrays;
import java.util.Comparator;
import java.util.List;
import java.util.stream.Stream;
import javax.tools.ToolProvider;

/** README.md: its program prints what it says, and it names each call, each constant and each test. */
public final class ReadmeTest {
    private static final Check CHECK = new Check();
    private static final Path TESTS = Path.of("src/test/java");

    public static void main(String[] args) throws IOException, ReflectiveOperationException {
        String page = Files.readString(Path.of("README.md"));
        program(block(page, "java"), block(page, "text"));
        names(page);
        tests(page);
        CHECK.end("ReadmeTest");
    }

    private static String block(String page, String kind) {
        String head = "```" + kind + "\n";
        int from = page.indexOf(head);
        int to = page.indexOf("```", from + head.length());
        CHECK.holds("there is a block of " + kind, from >= 0 && to > from);
        return page.substring(from + head.length(), to);
    }

    private static void program(String source, String want) throws IOException, ReflectiveOperationException {
        Path room = Files.createTempDirectory("readme");
        try {
            Path file = Files.writeString(room.resolve("Mine.java"), source);
            int compiled = ToolProvider.getSystemJavaCompiler().run(null, null, null, "--release", "17", "-cp",
                System.getProperty("java.class.path"), "-d", room.toString(), file.toString());
            CHECK.due("the program is compiled", compiled, 0);
            String got = printed(room);
            CHECK.holds("the program prints\n" + got + "and not\n" + want, got.equals(want));
        } finally {
            try (Stream<Path> all = Files.walk(room)) {
                for (Path path : all.sorted(Comparator.reverseOrder()).toList()) {
                    Files.delete(path);
                }
            }
        }
    }

    private static String printed(Path room) throws IOException, ReflectiveOperationException {
        ByteArrayOutputStream bytes = new ByteArrayOutputStream();
        PrintStream out = System.out;
        try (URLClassLoader loader = new URLClassLoader(new URL[] {room.toUri().toURL()})) {
            System.setOut(new PrintStream(bytes, true, StandardCharsets.UTF_8));
            loader.loadClass("Mine").getMethod("main", String[].class).invoke(null, (Object) new String[0]);
        } finally {
            System.setOut(out);
        }
        return bytes.toString(StandardCharsets.UTF_8).replace(System.lineSeparator(), "\n");
    }

    private static void names(String page) throws IllegalAccessException {
        for (Method m : LeftOut.class.getDeclaredMethods()) {
            if (Modifier.isPublic(m.getModifiers())) {
                CHECK.holds("the page names the call " + m.getName(), page.contains("`" + m.getName() + "`"));
            }
        }
        List<Field> refusals = Arrays.stream(LeftOut.class.getFields()).filter(f -> !f.getName().equals("NONE")).toList();
        for (Field f : refusals) {
            String row = "\\| `" + f.getName() + "` *\\| *" + f.getInt(null) + " \\|";
            CHECK.holds("the page tells of " + f.getName(), page.lines().anyMatch(line -> line.matches(row + ".*")));
        }
        CHECK.holds("the page tells of NONE", page.contains("`NONE` (" + LeftOut.NONE + ")"));
        CHECK.holds("the page tells of 512 calls", page.contains("512th"));
    }

    private static void tests(String page) throws IOException {
        try (Stream<Path> files = Files.list(TESTS)) {
            for (Path file : files.toList()) {
                String name = file.getFileName().toString().replace(".java", "");
                if (name.endsWith("Test")) {
                    CHECK.holds("the page names " + name, page.contains("`" + name + "`"));
                }
            }
        }
        CHECK.holds("the page names .ci/run", page.contains("\n    .ci/run\n") && Files.isExecutable(Path.of(".ci/run")));
    }
}
