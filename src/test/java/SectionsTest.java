import java.io.IOException;
import java.nio.file.Files;
import java.nio.file.Path;
import java.util.ArrayList;
import java.util.List;
import java.util.regex.Matcher;
import java.util.regex.Pattern;

/** No section of the document that says what is due is left without a test by sentence. */
public final class SectionsTest {
    private static final Path DOCUMENT = Path.of("..", "shared", "DOC.md");
    private static final Path TESTS = Path.of("src", "test", "java");
    /** A heading with words of its own below it, not only with headings. */
    private static final Pattern HEADING = Pattern.compile("(?m)^##+ (.+)\\n\\s*(?=[^#\\s])");
    private static final Pattern OPENED = Pattern.compile("section\\(\"([^\"]+)\"\\);");

    public static void main(String[] args) throws IOException {
        List<String> opened = new ArrayList<>();
        try (var files = Files.newDirectoryStream(TESTS, "*.java")) {
            for (Path file : files) {
                opened.addAll(named(OPENED, Files.readString(file)));
            }
        }
        List<String> headings = named(HEADING, Files.readString(DOCUMENT));
        headings.remove("Not promised");
        int wrong = headings.size() < 33 ? 1 : 0;
        for (String heading : headings) {
            if (!opened.contains(heading)) {
                wrong++;
                System.out.println("there is no test of the section " + heading);
            }
        }
        System.out.println(headings.size() + " sections, " + (wrong == 0 ? "each has its test" : "not all have tests"));
        if (wrong != 0) {
            System.exit(1);
        }
    }

    private static List<String> named(Pattern pattern, String text) {
        List<String> names = new ArrayList<>();
        Matcher found = pattern.matcher(text);
        while (found.find()) {
            names.add(found.group(1));
        }
        return names;
    }
}
