import java.io.IOException;
import java.lang.reflect.Method;
import java.net.URL;
import java.net.URLClassLoader;
import java.nio.file.Files;
import java.nio.file.Path;
import java.util.regex.Matcher;
import java.util.regex.Pattern;
import javax.tools.ToolProvider;

/** README.md names each call; its example compiles, and each call there answers what stands behind it. */
public final class ReadmeTest {
    private static final Path README = Path.of("README.md");
    private static final Pattern BLOCK = Pattern.compile("(?s)```java\n(.*?)```");
    private static final Pattern ANSWERED =
            Pattern.compile("\\s*(?:int (\\w+) = )?(x\\.\\w+\\([^;]*\\));\\s*// = (-?\\w+).*");

    private static int answers = 0;
    private static int wrong = 0;

    public static void main(String[] args) throws IOException, ReflectiveOperationException {
        String readme = Files.readString(README);
        for (Method call : Face.calls()) {
            if (!readme.contains("`" + call.getName() + "`")) {
                fail("README.md does not tell what " + call.getName() + " does");
            }
        }
        Matcher block = BLOCK.matcher(readme);
        if (!block.find()) {
            fail("README.md has no example");
        } else {
            run(program(block.group(1)));
        }
        if (answers < 20) {
            fail("only " + answers + " answers of the example were looked at");
        }
        System.out.println(wrong == 0 ? "the example of README.md holds" : wrong + " faults of README.md");
        if (wrong != 0) {
            System.exit(1);
        }
    }

    private static void fail(String fault) {
        wrong++;
        System.out.println(fault);
    }

    /** Called by the example's program. */
    public static void due(int line, int got, int want) {
        answers++;
        if (got != want) {
            fail("line " + line + " of the example answered " + got + ", due is " + want);
        }
    }

    /** Each call whose answer is told becomes one that is looked at. */
    private static String program(String example) {
        StringBuilder program = new StringBuilder("public final class Example { public static void main(String[] a) {\n");
        int number = 0;
        for (String line : example.split("\n")) {
            number++;
            Matcher answered = ANSWERED.matcher(line);
            if (!answered.matches()) {
                program.append(line).append('\n');
                continue;
            }
            String got = answered.group(2);
            if (answered.group(1) != null) {
                program.append("int ").append(answered.group(1)).append(" = ").append(got).append(";\n");
                got = answered.group(1);
            }
            String want = answered.group(3);
            String due = want.matches("-?\\d+") ? want : "StyleCascade." + want;
            program.append("ReadmeTest.due(").append(number).append(", ").append(got).append(", ").append(due)
                    .append(");\n");
        }
        return program.append("} }\n").toString();
    }

    private static void run(String program) throws IOException, ReflectiveOperationException {
        String classes = System.getProperty("java.class.path");
        Path place = Files.createTempDirectory(Path.of(classes), "example");
        Path source = Files.writeString(place.resolve("Example.java"), program);
        int code = ToolProvider.getSystemJavaCompiler().run(null, null, null,
                "-cp", classes, "-d", place.toString(), source.toString());
        if (code != 0) {
            fail("the example does not compile:\n" + program);
            return;
        }
        try (URLClassLoader loader = new URLClassLoader(new URL[] {place.toUri().toURL()})) {
            loader.loadClass("Example").getMethod("main", String[].class).invoke(null, (Object) new String[0]);
        }
    }
}
