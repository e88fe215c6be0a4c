import java.io.IOException;
import java.lang.reflect.InvocationTargetException;
import java.lang.reflect.Method;
import java.net.MalformedURLException;
import java.net.URL;
import java.net.URLClassLoader;
import java.nio.file.Files;
import java.nio.file.Path;
import java.util.ArrayList;
import java.util.List;
import java.util.regex.Matcher;
import java.util.regex.Pattern;
import java.util.stream.Stream;
import javax.tools.ToolProvider;

/** The examples of README.md as one program, each with the answer that it tells; and that it tells of every call and test. */
public final class ReadmeTest {
    private static final Path PAGE = Path.of("README.md");
    private static final Path TESTS = Path.of("src/test/java");
    private static final String PROGRAM = "Examples";
    private static final int LEAST_EXAMPLES = 60;
    private static final Pattern BLOCK = Pattern.compile("(?s)```java\n(.*?)```");
    private static final Pattern EXAMPLE = Pattern.compile("(?m)^(x\\.\\w+\\([^\n]*\\)); +// (-?\\d+)\\b.*$");

    private static int wrong = 0;
    private static int asked = 0;

    public static void due(String call, long got, long want) {
        asked++;
        look(got == want, call + " answered " + got + ", README.md tells " + want);
    }

    private static void look(boolean holds, String otherwise) {
        if (!holds) {
            wrong++;
            System.out.println(otherwise);
        }
    }

    private static String programOf(String page) {
        StringBuilder program = new StringBuilder("public final class " + PROGRAM + " {\n    public static void main(String[] args) {\n");
        Matcher block = BLOCK.matcher(page);
        while (block.find()) {
            program.append(EXAMPLE.matcher(block.group(1)).replaceAll("ReadmeTest.due(\"$1\", $1, $2L);"));
        }
        return program.append("    }\n}\n").toString();
    }

    private static boolean isCompiled(Path room) {
        String source = room.resolve(PROGRAM + ".java").toString();
        return ToolProvider.getSystemJavaCompiler().run(null, System.out, System.out,
            "-cp", System.getProperty("java.class.path"), "-d", room.toString(), source) == 0;
    }

    private static void runIn(Path room) throws MalformedURLException, ReflectiveOperationException {
        URL[] where = {room.toUri().toURL()};
        Class<?> program = new URLClassLoader(where, ReadmeTest.class.getClassLoader()).loadClass(PROGRAM);
        try {
            program.getMethod("main", String[].class).invoke(null, (Object) new String[0]);
        } catch (InvocationTargetException e) {
            look(false, "the examples threw " + e.getCause());
        }
    }

    private static void examples(String page) throws IOException, ReflectiveOperationException {
        Path room = Files.createTempDirectory("readme");
        try {
            Files.writeString(room.resolve(PROGRAM + ".java"), programOf(page));
            if (isCompiled(room)) {
                runIn(room);
            } else {
                look(false, "the examples of README.md don't compile");
            }
        } finally {
            try (Stream<Path> files = Files.list(room)) {
                for (Path file : files.toList()) {
                    Files.delete(file);
                }
            }
            Files.delete(room);
        }
        look(asked >= LEAST_EXAMPLES, "only " + asked + " examples were run");
    }

    private static void mentions(String page) throws IOException {
        for (Method m : LongerBack.class.getDeclaredMethods()) {
            boolean isInner = (m.getModifiers() & java.lang.reflect.Modifier.PUBLIC) == 0;
            look(isInner || page.contains("`" + m.getName() + "`") && page.contains("x." + m.getName() + "("),
                "README.md has no word, or no example, of " + m.getName());
        }
        List<Path> tests = new ArrayList<>();
        try (Stream<Path> files = Files.list(TESTS)) {
            files.forEach(tests::add);
        }
        for (Path test : tests) {
            String name = test.getFileName().toString().replace(".java", "");
            look(page.contains("`" + name + "`"), "README.md has no word of " + name);
        }
    }

    public static void main(String[] args) throws IOException, ReflectiveOperationException {
        String page = Files.readString(PAGE);
        examples(page);
        mentions(page);
        System.out.println(wrong == 0 ? "all " + asked + " examples are as told" : wrong + " things are not as told");
        if (wrong != 0) {
            System.exit(1);
        }
    }
}
