import java.io.IOException;
import java.nio.file.Files;
import java.nio.file.Path;

/** What the document says ahead of its terms: what the class is, and its public face. */
public final class OutlineTest extends Sentences {
    private static final Path SOURCE = Path.of("src", "main", "java", "StyleCascade.java");
    private static final int CALLS = 512;

    public static void main(String[] args) throws IOException {
        elementsAndRules();
        declarationsAndValues();
        texts();
        calls();
        face();
        finish();
    }

    // ---- what it is

    private static void elementsAndRules() {
        section("What it is");
        holds("A cascade of styles: a tree of elements", x -> {
            chain(x);
            x.add(1, 4, 0);
            due("two below one", x.element(4, 0), x.element(2, 0));
            due("steps from the one", x.element(4, 3), 2);
            due("steps from the chain's end", x.element(3, 3), 3);
        });
        holds("rules that match them by kinds, classes and ancestors", x -> {
            x.add(0, 1, 6);
            x.rule(1, 0, -1, 0, -1, 0);
            x.rule(-1, 2, -1, 0, -1, 0);
            x.rule(-1, 0, 0, 0, -1, 0);
            for (int rule = 0; rule < 3; rule++) {
                due("the child by " + rule, x.matches(rule, 1), 1);
                due("the root by " + rule, x.matches(rule, 0), 0);
            }
        });
        holds("in layers and scopes", x -> {
            chain(x);
            x.rule(-1, 0, -1, 3, -1, 0);
            x.rule(-1, 0, -1, 2, 2, 0);
            x.declare(0, 0, 1);
            x.declare(1, 0, 2);
            due("the higher layer", x.winner(3, 0), 0);
            x.drop(0);
            due("in the scope", x.winner(3, 0), 0);
            due("above the scope", x.winner(1, 0), MISSING);
        });
    }

    private static void declarationsAndValues() {
        holds("declarations of properties by numbers or by references to custom values that may refer to one"
                + " another", x -> {
            anyRule(x);
            x.declare(0, 9, 7);
            x.refer(0, 8, 9, -1);
            x.refer(0, 1, 8, -1);
            due("by a number", x.value(0, 9), 7);
            due("by a reference to it", x.value(0, 8), 7);
            due("by a reference to the reference", x.value(0, 1), 7);
        });
        holds("cycles that leave a value without any", x -> {
            anyRule(x);
            x.refer(0, 8, 9, 1);
            x.refer(0, 9, 8, 2);
            due("cycle", x.cycle(0, 8), 2);
            due("value", x.value(0, 8), MISSING);
        });
        holds("values that are inherited", x -> {
            chain(x);
            ruleOfKind(x, 1);
            x.declare(0, 8, 5);
            due("value below", x.value(3, 8), 5);
            due("from", x.from(3, 8), 1);
        });
        holds("the winner of each value with the criterion by which it won over each other declaration", x -> {
            anyRule(x);
            anyRule(x);
            x.rule(-1, 0, -1, 0, -1, 1);
            for (int rule = 0; rule < 3; rule++) {
                x.declare(rule, 0, rule);
            }
            due("winner", x.winner(0, 0), 2);
            due("by importance", x.why(0, 0, 1, 1), 1);
            due("the next one by order", x.why(0, 0, 2, 1), 5);
        });
    }

    private static void texts() {
        // No call tells a reason: the document asks for the place alone.
        holds("and rules as texts with places and reasons of faults.", x -> {
            faultDue(x, "k1{0=5}", 6);
            faultDue(x, "k1{0=5;}", MISSING);
            due("read", x.read(), 0);
            due("declared", x.declared(0, 0, 0), 5);
        });
    }

    private static void calls() {
        holds("An object is used for at most 512 calls after it has been made", x -> {
            for (int call = 1; call <= CALLS - 6; call++) {
                due("dress as call " + call, x.dress(0, call % 6, call % 16), call == 1 ? 0 : look(call - 1));
            }
            for (int left = 4; left >= 0; left--) {
                due("undo", x.undo(), left);
            }
            due("the last call", x.element(0, 2), (CALLS - 11) % 16);
        });
        holds("what later calls answer is free.", x -> {
            for (int call = 1; call <= CALLS + 100; call++) {
                x.dress(0, call % 6, call % 16);
            }
            StyleCascade other = new StyleCascade();
            due("another object has no part in it", other.count(5), 0);
            due("nor its root", other.dress(0, 1, 1), 0);
        });
        sectionEnds();
    }

    private static int look(int call) {
        return 16 * (call % 6) + call % 16;
    }

    // ---- the public face

    /** That the class has nothing beside these lines is told by LanguageTest. */
    private static void face() throws IOException {
        section("The public face");
        String source = Files.readString(SOURCE);
        for (String line : Face.lines()) {
            holds(line, x -> due("times that it begins a line of the source", timesIn(source, line), 1));
        }
        sectionEnds();
    }

    /** A line of the face with a body in place of its last sign, if it is no constant. */
    private static int timesIn(String source, String line) {
        String begin = line.replaceFirst("\\);$", ") {");
        int times = 0;
        for (String written : source.split("\n")) {
            times += written.trim().equals(begin) ? 1 : 0;
        }
        return times;
    }
}
