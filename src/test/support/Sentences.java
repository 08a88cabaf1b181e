import java.io.IOException;
import java.nio.file.Files;
import java.nio.file.Path;
import java.util.regex.Matcher;
import java.util.regex.Pattern;

/**
 * What the tests by sentence share. A test opens a section of the document and holds the class
 * against its sentences, each under the sentence's own words; these must stand in the document, and
 * no word of the section may be left without a test.
 */
abstract class Sentences {
    static final int INVALID = StyleCascade.INVALID_ARGUMENT;
    static final int IMPOSSIBLE = StyleCascade.NOT_POSSIBLE;
    static final int LIMIT = StyleCascade.LIMIT_REACHED;
    static final int MISSING = StyleCascade.NOT_FOUND;

    private static final Path DOCUMENT = Path.of("..", "shared", "DOC.md");
    private static final String HEADING = "(?m)^##+ ";
    // OutlineTest holds the face by its own section, and the headings of the interface bind nothing here.
    private static final String NOT_HELD = "`(int \\w+|StyleCascade)\\([^)]*\\)`:|```java"
            + "|Ahead of the calls [^.]*? the interface says: ---- \\w+\\.";

    private static String title = "";
    private static String words = "";
    private static boolean[] isHeld = {};
    private static String sentence = "";
    private static int sentences = 0;
    private static int wrong = 0;

    /** What a sentence asks of a new object. */
    interface Check {
        void on(StyleCascade x);
    }

    interface Call {
        int on(StyleCascade x);
    }

    interface CallOfNumber {
        int on(StyleCascade x, int number);
    }

    // ---- sentences

    static void section(String heading) {
        title = heading;
        words = wordsBelow(heading);
        isHeld = new boolean[words.length()];
        cover(Pattern.compile(NOT_HELD));
    }

    static void holds(String quoted, Check check) {
        sentence = quoted;
        if (!cover(Pattern.compile(quoted, Pattern.LITERAL))) {
            fail("the document does not say so");
        }
        sentences++;
        check.on(new StyleCascade());
    }

    /** To be called behind the last sentence of a section. */
    static void sectionEnds() {
        sentence = "the whole section";
        StringBuilder left = new StringBuilder();
        for (int place = 0; place < words.length(); place++) {
            left.append(isHeld[place] ? '|' : words.charAt(place));
        }
        for (String rest : left.toString().split("\\|+")) {
            if (rest.matches(".*\\w.*")) {
                fail("there is no test of: " + rest);
            }
        }
    }

    static void finish() {
        System.out.println(sentences + " sentences, " + (wrong == 0 ? "all hold" : wrong + " answers are not as due"));
        if (wrong != 0) {
            System.exit(1);
        }
    }

    private static String wordsBelow(String heading) {
        try {
            for (String part : Files.readString(DOCUMENT).split(HEADING)) {
                if (part.startsWith(heading + "\n")) {
                    return part.substring(heading.length()).replaceAll("\\s+", " ");
                }
            }
        } catch (IOException e) {
            fail("the document cannot be read: " + e);
        }
        fail("the document has no such section");
        return "";
    }

    private static boolean cover(Pattern quoted) {
        Matcher found = quoted.matcher(words);
        boolean isFound = false;
        while (found.find()) {
            isFound = true;
            for (int place = found.start(); place < found.end(); place++) {
                isHeld[place] = true;
            }
        }
        return isFound;
    }

    private static void fail(String fault) {
        wrong++;
        System.out.println(title + " | " + sentence + " | " + fault);
    }

    // ---- answers

    static void due(String call, int got, int want) {
        if (got != want) {
            fail(call + " answered " + got + ", due is " + want);
        }
    }

    static void accepted(String call, int got) {
        if (got < 0) {
            fail(call + " answered " + got + ", due is no error");
        }
    }

    /** Each number of the range is taken, on an object of its own, and none beside it. */
    static void range(int least, int most, Check made, CallOfNumber call) {
        for (int number = least; number <= most; number++) {
            if (call.on(made(made), number) == INVALID) {
                fail("with " + number + " it was refused");
            }
        }
        int[] outside = {least - 1, least - 2, most + 1, most + 2, Integer.MIN_VALUE, Integer.MAX_VALUE};
        for (int number : outside) {
            due("with " + number, call.on(made(made), number), INVALID);
        }
    }

    static StyleCascade made(Check made) {
        StyleCascade x = new StyleCascade();
        made.on(x);
        return x;
    }

    // ---- objects

    static int anyRule(StyleCascade x) {
        return x.rule(-1, 0, -1, 0, -1, 0);
    }

    static int ruleOfKind(StyleCascade x, int kind) {
        return x.rule(kind, 0, -1, 0, -1, 0);
    }

    /** Below the root 1 (kind 1), below this 2 (kind 2), below this 3 (kind 3). */
    static void chain(StyleCascade x) {
        for (int number = 1; number <= 3; number++) {
            x.add(number - 1, number, 0);
        }
    }

    /** A chain of all sixteen elements, those below the root of a kind. */
    static void deepChain(StyleCascade x, int kind) {
        for (int parent = 0; parent < 15; parent++) {
            x.add(parent, kind, 0);
        }
    }

    static void fillElements(StyleCascade x) {
        for (int number = x.count(0); number < 16; number++) {
            x.add(0, 1, 1);
        }
    }

    static void fillRules(StyleCascade x) {
        for (int number = x.count(1); number < 16; number++) {
            anyRule(x);
        }
    }

    static int write(StyleCascade x, String text) {
        x.clearText();
        int length = 0;
        for (int place = 0; place < text.length(); place++) {
            length = x.type(text.charAt(place));
        }
        return length;
    }

    static int read(StyleCascade x, String text) {
        write(x, text);
        return x.read();
    }

    static void faultDue(StyleCascade x, String text, int want) {
        write(x, text);
        due("fault of " + text, x.fault(), want);
    }

    /** Its text on an object of its own, that other texts may not count to its calls. */
    static void faultDue(String text, int want) {
        faultDue(new StyleCascade(), text, want);
    }
}
