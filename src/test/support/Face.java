import java.io.IOException;
import java.lang.reflect.InvocationTargetException;
import java.lang.reflect.Method;
import java.nio.file.Files;
import java.nio.file.Path;
import java.util.ArrayList;
import java.util.Arrays;
import java.util.List;
import java.util.regex.Matcher;
import java.util.regex.Pattern;

/** The public face, read from the document, so that nothing of it is written down here again. */
final class Face {
    private static final Path DOCUMENT = Path.of("..", "shared", "DOC.md");
    private static final Pattern BLOCK = Pattern.compile("(?s)```java\\s+(.*?)\\s+```");
    private static final Pattern CALL = Pattern.compile("public int (\\w+)\\(([^)]*)\\);");

    private Face() { }

    /** Its lines, from that of the class to that of the last call. */
    static List<String> lines() throws IOException {
        Matcher block = BLOCK.matcher(Files.readString(DOCUMENT));
        List<String> lines = new ArrayList<>();
        if (block.find()) {
            for (String line : block.group(1).split("\n")) {
                if (!line.equals("}")) {
                    lines.add(line.trim());
                }
            }
        }
        return lines;
    }

    /** Its calls in their order; one that the class does not have is an exception here. */
    static List<Method> calls() throws IOException, NoSuchMethodException {
        List<Method> calls = new ArrayList<>();
        for (String line : lines()) {
            Matcher call = CALL.matcher(line);
            if (call.matches()) {
                int parameters = call.group(2).isEmpty() ? 0 : call.group(2).split(",").length;
                Class<?>[] types = new Class<?>[parameters];
                Arrays.fill(types, int.class);
                calls.add(StyleCascade.class.getMethod(call.group(1), types));
            }
        }
        return calls;
    }

    /** The answer of a call to as many of the arguments as it takes. */
    static int answer(Method call, StyleCascade x, int[] arguments) {
        Object[] taken = new Object[call.getParameterCount()];
        for (int number = 0; number < taken.length; number++) {
            taken[number] = arguments[number];
        }
        try {
            return (int) call.invoke(x, taken);
        } catch (IllegalAccessException | InvocationTargetException e) {
            throw new IllegalStateException(call.getName() + Arrays.toString(taken), e);
        }
    }
}
