import java.io.IOException;
import java.lang.reflect.Method;
import java.util.List;

/** What the document says ahead of its promises: elements, rules, declarations and values. */
public final class TermsTest extends Sentences {
    private static final int[] UNMATCHED = {5, 0, -1, 0, -1, 0};

    public static void main(String[] args) throws IOException, NoSuchMethodException {
        numbers();
        elements();
        rules();
        matching();
        declarations();
        criteria();
        customValues();
        cycles();
        plainValues();
        finish();
    }

    private static void numbers() throws IOException, NoSuchMethodException {
        section("Terms");
        List<Method> calls = Face.calls();
        holds("All numbers are whole numbers.", x -> {
            for (Method call : calls) {
                due(call.getName() + " answers an int", call.getReturnType() == int.class ? 1 : 0, 1);
                for (Class<?> taken : call.getParameterTypes()) {
                    due(call.getName() + " takes an int", taken == int.class ? 1 : 0, 1);
                }
            }
        });
        sectionEnds();
    }

    // ---- elements

    private static void elements() {
        section("Elements");
        holds("There are at most 16 elements", x -> {
            fillElements(x);
            due("elements", x.count(0), 16);
            due("a seventeenth", x.add(0, 0, 0), LIMIT);
            due("a seventeenth below the last", x.add(15, 0, 0), LIMIT);
            due("elements after it", x.count(0), 16);
            x.remove();
            due("one in the place of the removed", x.add(0, 0, 0), 15);
            due("a seventeenth then", x.add(0, 0, 0), LIMIT);
        });
        holds("numbered from 0", x -> {
            due("the first", x.element(0, 1), 0);
            due("before it", x.element(-1, 1), INVALID);
            for (int number = 1; number < 16; number++) {
                due("not yet " + number, x.element(number, 1), INVALID);
                due("number", x.add(0, 1, 0), number);
                due("there is " + number, x.element(number, 1), 1);
            }
            due("behind the last", x.element(16, 1), INVALID);
        });
        holds("The element 0 is the root, and always there", x -> {
            due("remove", x.remove(), IMPOSSIBLE);
            x.add(0, 1, 1);
            due("remove of the other", x.remove(), 1);
            due("remove once more", x.remove(), IMPOSSIBLE);
            x.undo();
            x.undo();
            due("its parent", x.element(0, 0), MISSING);
            due("its steps up to the root", x.element(0, 3), 0);
            due("elements", x.count(0), 1);
        });
        holds("(initially of the kind 0, without classes)", x -> {
            due("kind", x.element(0, 1), 0);
            due("classes", x.element(0, 2), 0);
            due("both as dress tells them", x.dress(0, 5, 15), 0);
            due("kind then", x.element(0, 1), 5);
            due("classes then", x.element(0, 2), 15);
        });
        holds("each other one has a parent with a lower number.", x -> {
            due("its own number as the parent", x.add(1, 0, 0), INVALID);
            due("the highest number", x.add(0, 0, 0), 1);
            due("its own number again", x.add(2, 0, 0), INVALID);
            for (int number = 2; number < 16; number++) {
                x.add(number % 3 == 0 ? 0 : number - 1, 0, 0);
                due("parent of " + number, x.element(number, 0), number % 3 == 0 ? 0 : number - 1);
            }
        });
        holds("An element has a kind (0 to 5)", x -> {
            range(0, 5, none -> { }, (y, kind) -> y.add(0, kind, 0));
            for (int kind = 0; kind <= 5; kind++) {
                x.add(0, kind, 5 - kind);
                due("kind", x.element(kind + 1, 1), kind);
            }
        });
        holds("and classes, a bit mask (0 to 15).", x -> {
            range(0, 15, none -> { }, (y, classes) -> y.add(0, 0, classes));
            for (int classes = 0; classes <= 15; classes++) {
                x.dress(0, 5 - classes / 3, classes);
                due("classes", x.element(0, 2), classes);
            }
        });
        sectionEnds();
    }

    // ---- rules

    private static void rules() {
        section("Rules");
        holds("There are at most 16 rules", x -> {
            fillRules(x);
            due("rules", x.count(1), 16);
            due("a seventeenth", anyRule(x), LIMIT);
            due("a seventeenth by a text", read(x, "{}"), LIMIT);
            due("rules after it", x.count(1), 16);
            x.drop(0);
            due("one in the place of the dropped", read(x, "{}"), 15);
            due("a seventeenth then", anyRule(x), LIMIT);
        });
        holds("numbered from 0 in the order in which they were added.", x -> {
            due("no rule 0 yet", x.ruleOf(0, 0), INVALID);
            for (int number = 0; number < 16; number++) {
                boolean isText = number % 2 == 1;
                due("number", isText ? read(x, "." + number + "{}") : x.rule(-1, number, -1, 0, -1, 0), number);
                due("behind it", x.ruleOf(number + 1, 1), INVALID);
            }
            for (int number = 0; number < 16; number++) {
                due("rule " + number, x.ruleOf(number, 1), number);
            }
            due("before the first", x.ruleOf(-1, 1), INVALID);
        });
        rulePart("A rule has a kind (0 to 5, or -1 for any)", 0, -1, 5);
        rulePart("classes (0 to 15)", 1, 0, 15);
        rulePart("an ancestor (0 to 5, or -1 for none)", 2, -1, 5);
        rulePart("a layer (0 to 3)", 3, 0, 3);
        holds("a scope (the number of an element, or -1 for none)", x -> {
            range(-1, 0, none -> { }, (y, scope) -> y.rule(0, 0, 0, 0, scope, 0));
            range(-1, 3, TermsTest::chain, (y, scope) -> y.rule(0, 0, 0, 0, scope, 0));
            range(-1, 15, TermsTest::fillElements, (y, scope) -> y.rule(0, 0, 0, 0, scope, 0));
            chain(x);
            for (int scope = -1; scope <= 3; scope++) {
                x.rule(0, 0, 0, 0, scope, 0);
                due("scope", x.ruleOf(scope + 1, 4), scope);
            }
        });
        rulePart("and it is important or not.", 5, 0, 1);
    }

    /** A part of rules by the place among their arguments: its range, and that it is kept. */
    private static void rulePart(String sentence, int place, int least, int most) {
        holds(sentence, x -> {
            range(least, most, none -> { }, (y, number) -> ruleWith(y, place, number));
            for (int number = most; number >= least; number--) {
                ruleWith(x, place, number);
                for (int part = 0; part < 6; part++) {
                    due("part " + part, x.ruleOf(most - number, part), part == place ? number : 0);
                }
            }
        });
    }

    private static int ruleWith(StyleCascade x, int place, int number) {
        int[] parts = new int[6];
        parts[place] = number;
        return ruleOf(x, parts);
    }

    private static int ruleOf(StyleCascade x, int... parts) {
        return x.rule(parts[0], parts[1], parts[2], parts[3], parts[4], parts[5]);
    }

    private static void matching() {
        holds("A rule matches an element if its kind is any, or that of the element;", x -> {
            for (int kind = -1; kind <= 5; kind++) {
                ruleOfKind(x, kind);
            }
            for (int kind = 0; kind <= 5; kind++) {
                x.dress(0, kind, 15);
                for (int of = -1; of <= 5; of++) {
                    due("a rule of " + of + " on " + kind, x.matches(of + 1, 0), of == -1 || of == kind ? 1 : 0);
                }
            }
        });
        holds("the element has all classes of the rule;", x -> {
            for (int classes = 0; classes <= 15; classes++) {
                x.rule(-1, classes, -1, 0, -1, 0);
            }
            for (int mask = 0; mask <= 15; mask++) {
                x.dress(0, 0, mask);
                for (int classes = 0; classes <= 15; classes++) {
                    boolean hasAll = (mask | classes) == mask;
                    due("classes " + classes + " on " + mask, x.matches(classes, 0), hasAll ? 1 : 0);
                }
            }
        });
        holds("the ancestor is none, or at least one element on the way from its parent to the root has this kind;",
                x -> {
            chain(x);
            x.add(0, 1, 0);
            for (int ancestor = -1; ancestor <= 4; ancestor++) {
                x.rule(-1, 0, ancestor, 0, -1, 0);
            }
            String[] ways = {"", "0", "01", "012", "0"};
            for (int element = 0; element <= 4; element++) {
                for (int ancestor = -1; ancestor <= 4; ancestor++) {
                    boolean isAbove = ancestor == -1 || ways[element].contains("" + ancestor);
                    due("below " + ancestor + " is " + element, x.matches(ancestor + 1, element), isAbove ? 1 : 0);
                }
            }
        });
        holds("the ancestor is none, or at least one element on the way from its parent to the root has this kind;",
                x -> {
            deepChain(x, 1);
            x.rule(1, 0, 0, 0, -1, 0);
            due("the root, fifteen steps up", x.matches(0, 15), 1);
            x.dress(0, 1, 0);
            due("no more", x.matches(0, 15), 0);
            x.dress(14, 0, 0);
            due("the parent", x.matches(0, 15), 1);
            due("its own kind does not count", x.matches(0, 14), 0);
        });
        holds("and the scope is none, or the element is the scope or lies below it.", x -> {
            chain(x);
            x.add(1, 0, 0);
            for (int scope = -1; scope <= 4; scope++) {
                x.rule(-1, 0, -1, 0, scope, 0);
            }
            String[] ways = {"0", "01", "012", "0123", "014"};
            for (int element = 0; element <= 4; element++) {
                for (int scope = -1; scope <= 4; scope++) {
                    boolean isIn = scope == -1 || ways[element].contains("" + scope);
                    due("in " + scope + " is " + element, x.matches(scope + 1, element), isIn ? 1 : 0);
                }
            }
        });
        holds("The specificity of a rule is 10 times the number of its classes", x -> {
            for (int classes = 0; classes <= 15; classes++) {
                x.rule(-1, classes, -1, 3, 0, 1);
                due("of " + classes, x.ruleOf(classes, 6), 10 * Integer.bitCount(classes));
            }
        });
        holds("plus 1 if its kind is not any", x -> {
            for (int kind = -1; kind <= 5; kind++) {
                x.rule(kind, 15, -1, 0, -1, 0);
                due("of " + kind, x.ruleOf(kind + 1, 6), kind == -1 ? 40 : 41);
            }
        });
        holds("plus 1 if its ancestor is not none.", x -> {
            for (int ancestor = -1; ancestor <= 5; ancestor++) {
                x.rule(0, 15, ancestor, 0, -1, 0);
                due("of " + ancestor, x.ruleOf(ancestor + 1, 6), ancestor == -1 ? 41 : 42);
            }
        });
        sectionEnds();
    }

    // ---- declarations

    private static void declarations() {
        section("Declarations");
        holds("There are 16 properties: 0 to 7 are plain, 8 to 15 custom.", x -> {
            range(0, 15, none -> { }, (y, property) -> y.value(0, property));
            range(8, 15, none -> { }, (y, custom) -> y.cycle(0, custom));
            for (int property = 0; property <= 15; property++) {
                due("value of " + property, x.value(0, property), property <= 7 ? 0 : MISSING);
            }
        });
        holds("A rule declares each property at most once:", x -> {
            anyRule(x);
            for (int property = 0; property <= 15; property++) {
                due("first", x.declare(0, property, 1), property + 1);
                due("instead", x.refer(0, property, 8, 2), property + 1);
                due("instead of that", x.declare(0, property, 3), property + 1);
                due("it is the last one", x.declared(0, property, 0), 3);
            }
            due("all", x.ruleOf(0, 7), 16);
        });
        holds("by a number (0 to 999)", x -> {
            range(0, 999, TermsTest::anyRule, (y, number) -> y.declare(0, 0, number));
            anyRule(x);
            for (int number = 0; number <= 999; number += 111) {
                x.declare(0, 0, number);
                due("number", x.declared(0, 0, 0), number);
            }
        });
        holds("or by a reference to a custom property", x -> {
            range(8, 15, TermsTest::anyRule, (y, custom) -> y.refer(0, 0, custom, 0));
            anyRule(x);
            for (int custom = 8; custom <= 15; custom++) {
                x.refer(0, 0, custom, 0);
                due("custom", x.declared(0, 0, 1), custom);
            }
        });
        holds("with a fallback (0 to 999) or without one (-1).", x -> {
            range(-1, 999, TermsTest::anyRule, (y, fallback) -> y.refer(0, 0, 8, fallback));
            anyRule(x);
            for (int fallback = -1; fallback <= 999; fallback += 100) {
                x.refer(0, 0, 8, fallback);
                due("fallback", x.declared(0, 0, 2), fallback == -1 ? MISSING : fallback);
            }
        });
    }

    /**
     * Two rules on the element 3, of which the first one wins, whichever was added first, but by the
     * criterion 5; the element has the kind 3, all classes, and the kinds 0 to 2 above it.
     */
    private static void duel(String call, int[] better, int[] worse, int criterion) {
        for (int first = 0; first <= (criterion == 5 ? 0 : 1); first++) {
            StyleCascade x = made(TermsTest::chain);
            x.dress(3, 3, 15);
            ruleOf(x, first == 0 ? worse : better);
            ruleOf(x, first == 0 ? better : worse);
            x.declare(0, 2, 100);
            x.declare(1, 2, 101);
            int winner = 1 - first;
            due(call, x.winner(3, 2), winner);
            due(call + ": its value", x.value(3, 2), 100 + winner);
            due(call + ": criterion", x.why(3, 2, 1, 1), criterion);
            due(call + ": the second", x.why(3, 2, 1, 0), first);
        }
    }

    private static int[] parts(int... parts) {
        return parts;
    }

    private static void criteria() {
        holds("Of two declarations of a property by rules that match an element", x -> {
            ruleOf(x, UNMATCHED);
            x.declare(0, 2, 1);
            due("one that does not match", x.winner(0, 2), MISSING);
            anyRule(x);
            due("one that does not declare it", x.winner(0, 2), MISSING);
            x.declare(1, 2, 1);
            due("the only one", x.winner(0, 2), 1);
            due("there is no other one", x.why(0, 2, 1, 0), MISSING);
        });
        holds("one wins over the other by the first of these criteria in which they differ:", x -> {
            duel("1 before 2 to 5", parts(-1, 0, -1, 3, -1, 1), parts(3, 15, 2, 3, 3, 0), 1);
            duel("2 before 3 to 5", parts(-1, 0, -1, 1, -1, 0), parts(3, 15, 2, 0, 3, 0), 2);
            duel("2 before 3 to 5, important", parts(-1, 0, -1, 0, -1, 1), parts(3, 15, 2, 1, 3, 1), 2);
            duel("3 before 4 and 5", parts(-1, 0, -1, 1, 0, 0), parts(3, 15, 2, 1, -1, 0), 3);
            duel("4 before 5", parts(3, 0, -1, 1, 1, 0), parts(-1, 0, -1, 1, 1, 0), 4);
        });
        holds("1 importance (the important one)", x -> {
            for (int layer = 0; layer <= 3; layer++) {
                duel("on the layer " + layer, parts(-1, 0, -1, layer, -1, 1), parts(-1, 0, -1, 3 - layer, -1, 0), 1);
            }
        });
        holds("2 layer (the higher one; of two important ones the lower one)", x -> {
            for (int low = 0; low <= 2; low++) {
                for (int high = low + 1; high <= 3; high++) {
                    duel("the higher one", parts(-1, 0, -1, high, -1, 0), parts(-1, 0, -1, low, -1, 0), 2);
                    duel("the lower one", parts(-1, 0, -1, low, -1, 1), parts(-1, 0, -1, high, -1, 1), 2);
                }
            }
        });
        holds("3 scope (a rule with a scope over one without;", x -> {
            for (int scope = 0; scope <= 3; scope++) {
                duel("the scope " + scope, parts(-1, 0, -1, 0, scope, 0), parts(3, 15, 2, 0, -1, 0), 3);
            }
            deepChain(x, 0);
            x.rule(-1, 0, -1, 0, 0, 0);
            anyRule(x);
            x.declare(0, 3, 1);
            x.declare(1, 3, 2);
            due("a scope fifteen steps up", x.winner(15, 3), 0);
            due("by the scope", x.why(15, 3, 1, 1), 3);
        });
        holds("of two scopes the one with fewer steps from the element up to it)", x -> {
            for (int far = 0; far <= 2; far++) {
                for (int near = far + 1; near <= 3; near++) {
                    duel("the nearer one", parts(-1, 0, -1, 0, near, 1), parts(3, 15, 2, 0, far, 1), 3);
                }
            }
            duel("the same scope goes on to 4", parts(3, 0, -1, 0, 2, 0), parts(-1, 0, -1, 0, 2, 0), 4);
            deepChain(x, 0);
            for (int scope = 15; scope >= 0; scope--) {
                x.rule(-1, 0, -1, 0, scope, 0);
                x.declare(15 - scope, 3, scope);
            }
            for (int place = 0; place <= 15; place++) {
                due("the scope in place " + place, x.why(15, 3, place, 0), place);
                due("its criterion", x.why(15, 3, place, 1), place == 0 ? 0 : 3);
            }
        });
        holds("4 specificity (the greater one)", x -> {
            duel("1 over 0 by the kind", parts(3, 0, -1, 0, -1, 0), parts(-1, 0, -1, 0, -1, 0), 4);
            duel("1 over 0 by the ancestor", parts(-1, 0, 0, 0, -1, 0), parts(-1, 0, -1, 0, -1, 0), 4);
            duel("2 over 1", parts(3, 0, 0, 0, -1, 0), parts(3, 0, -1, 0, -1, 0), 4);
            duel("10 over 2", parts(-1, 8, -1, 0, -1, 0), parts(3, 0, 2, 0, -1, 0), 4);
            duel("20 over 12", parts(-1, 3, -1, 0, -1, 0), parts(3, 8, 2, 0, -1, 0), 4);
            duel("42 over 41", parts(3, 15, 2, 0, -1, 0), parts(3, 15, -1, 0, -1, 0), 4);
        });
        holds("5 order (the rule with the higher number).", x -> {
            duel("all alike", parts(3, 1, -1, 2, 2, 1), parts(3, 1, -1, 2, 2, 1), 5);
            duel("another class", parts(-1, 1, -1, 0, -1, 0), parts(-1, 8, -1, 0, -1, 0), 5);
            duel("a kind and an ancestor", parts(3, 0, -1, 0, -1, 0), parts(-1, 0, 0, 0, -1, 0), 5);
            duel("an ancestor and a kind", parts(-1, 0, 2, 3, 0, 0), parts(3, 0, -1, 3, 0, 0), 5);
        });
        holds("The declaration that wins over all others is the winner.", x -> {
            for (int rule = 0; rule < 16; rule++) {
                due("the last one so far", x.winner(0, 2), rule == 0 ? MISSING : rule - 1);
                anyRule(x);
                x.declare(rule, 2, rule);
            }
            x.drop(7);
            x.rule(-1, 0, -1, 3, -1, 1);
            due("one that does not declare it", x.winner(0, 2), 14);
            x.declare(15, 2, 99);
            due("the important one", x.winner(0, 2), 15);
            x.rule(-1, 0, -1, 0, -1, 1);
            due("there is no room for another one", x.winner(0, 2), 15);
        });
        sectionEnds();
    }

    // ---- values

    private static void customValues() {
        section("Values");
        holds("The value of a custom property on an element: if the winner has a number, this;", x -> {
            anyRule(x);
            for (int custom = 8; custom <= 15; custom++) {
                x.declare(0, custom, custom % 2 == 0 ? 0 : 999);
                due("value of " + custom, x.value(0, custom), custom % 2 == 0 ? 0 : 999);
            }
        });
        holds("if it refers to a custom property, the value of that on the same element", x -> {
            chain(x);
            anyRule(x);
            for (int custom = 8; custom <= 14; custom++) {
                x.refer(0, custom, custom + 1, 500);
            }
            x.declare(0, 15, 0);
            due("a chain of all eight", x.value(0, 8), 0);
            ruleOfKind(x, 1);
            x.declare(1, 15, 7);
            due("on the same element", x.value(1, 8), 7);
            due("not on that above", x.value(2, 8), 0);
            ruleOfKind(x, 3);
            x.refer(2, 15, 9, 3);
            x.undeclare(0, 8);
            x.declare(0, 9, 4);
            due("against the order of their numbers", x.value(3, 15), 4);
        });
        holds("if it refers to a custom property, the value of that on the same element", x -> {
            chain(x);
            ruleOfKind(x, 1);
            ruleOfKind(x, 3);
            x.declare(0, 9, 6);
            x.refer(1, 8, 9, 500);
            due("a value that is inherited there", x.value(3, 8), 6);
        });
        holds("or, if it has none, the fallback;", x -> {
            anyRule(x);
            x.refer(0, 8, 9, 0);
            x.refer(0, 10, 9, 999);
            x.refer(0, 11, 8, 5);
            due("a fallback of 0", x.value(0, 8), 0);
            due("a fallback of 999", x.value(0, 10), 999);
            due("the fallback of another one is a value", x.value(0, 11), 0);
            x.declare(0, 9, 3);
            due("none is needed", x.value(0, 8), 3);
        });
        holds("if there is no winner, or neither of both, the value of the same property on the parent", x -> {
            chain(x);
            ruleOfKind(x, 1);
            ruleOfKind(x, 2);
            ruleOfKind(x, 3);
            x.declare(0, 8, 0);
            due("no winner", x.value(2, 8), 0);
            due("nor there", x.value(3, 8), 0);
            x.refer(1, 8, 9, -1);
            due("neither of both", x.value(2, 8), 0);
            x.declare(0, 10, 1);
            x.refer(1, 10, 11, 2);
            due("the parent's fallback", x.value(3, 10), 2);
            x.refer(2, 12, 10, -1);
            due("a reference to what is inherited", x.value(3, 12), 2);
        });
        holds("if there is no winner, or neither of both, the value of the same property on the parent", x -> {
            deepChain(x, 1);
            ruleOfKind(x, 0);
            x.declare(0, 15, 999);
            due("from fifteen steps up", x.value(15, 15), 999);
        });
        holds("(none on the root).", x -> {
            due("no winner", x.value(0, 8), MISSING);
            anyRule(x);
            x.refer(0, 8, 9, -1);
            due("neither of both", x.value(0, 8), MISSING);
            x.add(0, 0, 0);
            due("nor below it", x.value(1, 9), MISSING);
        });
    }

    private static void cycles() {
        holds("But a custom property that is in a cycle on an element has no value there:", x -> {
            chain(x);
            ruleOfKind(x, 1);
            ruleOfKind(x, 2);
            x.declare(0, 8, 4);
            x.declare(0, 9, 5);
            x.refer(1, 8, 9, 1);
            x.refer(1, 9, 8, 2);
            due("no fallback", x.value(2, 8), MISSING);
            due("no fallback of the other one", x.value(2, 9), MISSING);
            due("nothing to inherit from there", x.value(3, 8), MISSING);
            due("what is above has its value", x.value(1, 8), 4);
            x.refer(1, 10, 8, 6);
            due("one that refers into it has its fallback", x.value(2, 10), 6);
            x.refer(1, 10, 8, -1);
            x.declare(0, 10, 7);
            due("or what it inherits", x.value(2, 10), 7);
        });
        holds("it is in a cycle, if by going from it to the property to which its winner on the element refers,"
                + " from this on likewise, and so on, one comes back to it.", x -> {
            x.add(0, 1, 0);
            anyRule(x);
            for (int custom = 8; custom <= 14; custom++) {
                x.refer(0, custom, custom + 1, 7);
            }
            due("not yet", x.cycle(0, 8), 0);
            x.refer(0, 15, 8, 7);
            due("of all eight", x.cycle(0, 8), 8);
            due("on both elements", x.count(4), 16);
            due("none has a value", x.value(1, 12), MISSING);
            x.refer(0, 15, 14, 7);
            due("of two", x.cycle(0, 15), 2);
            due("the way into it is not in it", x.cycle(0, 13), 0);
            due("it has a value", x.value(0, 8), 7);
            x.refer(0, 15, 15, 7);
            due("of one", x.cycle(0, 15), 1);
            due("it does not hold the others", x.cycle(0, 14), 0);
            ruleOfKind(x, 1);
            x.declare(1, 15, 0);
            due("the winner has a number", x.cycle(1, 15), 0);
            due("elsewhere it is as before", x.cycle(0, 15), 1);
        });
        holds("it is in a cycle, if by going from it to the property to which its winner on the element refers,"
                + " from this on likewise, and so on, one comes back to it.", x -> {
            chain(x);
            ruleOfKind(x, 1);
            ruleOfKind(x, 2);
            x.refer(0, 8, 9, 3);
            x.refer(1, 9, 8, 4);
            due("an inherited value is no reference", x.cycle(2, 9), 0);
            due("it has the value that is inherited", x.value(2, 9), 3);
        });
    }

    private static void plainValues() {
        holds("The value of a plain property: likewise, if there is a winner, by its number, or its reference,"
                + " or its fallback;", x -> {
            anyRule(x);
            for (int plain = 0; plain <= 7; plain++) {
                x.declare(0, plain, 999 - plain);
                due("number", x.value(0, plain), 999 - plain);
                x.refer(0, plain, 8 + plain, 0);
                due("fallback", x.value(0, plain), 0);
                x.declare(0, 8 + plain, plain + 1);
                due("reference", x.value(0, plain), plain + 1);
            }
            x.refer(0, 8, 8, 5);
            due("its fallback, if that is in a cycle", x.value(0, 0), 0);
        });
        holds("otherwise, or if this gives none, a plain property with an even number has the value of the same"
                + " property on the parent", x -> {
            deepChain(x, 1);
            ruleOfKind(x, 0);
            x.rule(-1, 0, -1, 0, 15, 0);
            for (int plain = 0; plain <= 6; plain += 2) {
                x.declare(0, plain, 900 + plain);
                due("no winner", x.value(15, plain), 900 + plain);
                x.refer(1, plain, 9, -1);
                due("neither of both", x.value(15, plain), 900 + plain);
                x.declare(1, plain, 0);
                due("a number of 0 is one", x.value(15, plain), 0);
            }
        });
        holds("(0 on the root)", x -> {
            anyRule(x);
            for (int plain = 0; plain <= 6; plain += 2) {
                due("no winner", x.value(0, plain), 0);
                x.refer(0, plain, 8, -1);
                due("neither of both", x.value(0, plain), 0);
            }
        });
        holds("one with an odd number 0.", x -> {
            chain(x);
            ruleOfKind(x, 1);
            ruleOfKind(x, 2);
            for (int plain = 1; plain <= 7; plain += 2) {
                x.declare(0, plain, 9);
                due("there", x.value(1, plain), 9);
                due("no winner", x.value(3, plain), 0);
                x.refer(1, plain, 8, -1);
                due("neither of both", x.value(2, plain), 0);
            }
        });
        sectionEnds();
    }
}
