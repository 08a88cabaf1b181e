/** The promises 1 to 7: a new object, and the calls of the elements. */
public final class ElementPromisesTest extends Sentences {
    public static void main(String[] args) {
        newObject();
        add();
        remove();
        dress();
        element();
        count();
        undo();
        finish();
    }

    private static void newObject() {
        section("Promise 1: A new object");
        holds("Creates a root without rules.", x -> {
            due("elements", x.count(0), 1);
            for (int what = 1; what <= 6; what++) {
                due("count " + what, x.count(what), 0);
            }
            due("a rule", x.ruleOf(0, 0), INVALID);
            due("rules on the root", x.element(0, 4), 0);
            due("cycles on the root", x.element(0, 5), 0);
            for (int property = 0; property < 16; property++) {
                due("value of " + property, x.value(0, property), property < 8 ? 0 : MISSING);
                due("winner of " + property, x.winner(0, property), MISSING);
                due("from of " + property, x.from(0, property), MISSING);
                due("why of " + property, x.why(0, property, 0, 0), MISSING);
            }
            for (int custom = 8; custom < 16; custom++) {
                due("cycle of " + custom, x.cycle(0, custom), 0);
            }
        });
        holds("Creates a root without rules.", x -> {
            x.add(0, 1, 1);
            anyRule(x);
            x.type('{');
            StyleCascade other = new StyleCascade();
            due("elements of another object", other.count(0), 1);
            due("its rules", other.count(1), 0);
            due("its states", other.count(5), 0);
            due("its text", other.count(6), 0);
            due("elements of the first one then", x.count(0), 2);
        });
        sectionEnds();
    }

    private static void add() {
        section("Promise 2: add");
        holds("Adds an element.", x -> {
            x.add(0, 5, 15);
            x.add(1, 0, 0);
            x.add(0, 3, 6);
            int[][] looks = {{MISSING, 0, 0, 0}, {0, 5, 15, 1}, {1, 0, 0, 2}, {0, 3, 6, 1}};
            for (int number = 0; number < looks.length; number++) {
                for (int what = 0; what < 4; what++) {
                    due("element " + number + " " + what, x.element(number, what), looks[number][what]);
                }
            }
            due("elements", x.count(0), 4);
        });
        holds("Adds an element.", x -> {
            x.add(0, 5, 15);
            x.remove();
            x.add(0, 0, 0);
            due("nothing of the removed one's kind", x.element(1, 1), 0);
            due("nor of its classes", x.element(1, 2), 0);
        });
        holds("`parent`: number of an element", x -> {
            range(0, 0, y -> { }, (y, parent) -> y.add(parent, 0, 0));
            range(0, 3, ElementPromisesTest::chain, (y, parent) -> y.add(parent, 0, 0));
            range(0, 15, ElementPromisesTest::fillElements, (y, parent) -> y.add(parent, 0, 0));
        });
        holds("`kind`: 0 to 5", x -> range(0, 5, y -> { }, (y, kind) -> y.add(0, kind, 15)));
        holds("`classes`: 0 to 15", x -> range(0, 15, y -> { }, (y, classes) -> y.add(0, 5, classes)));
        holds("Returns its number;", x -> {
            for (int number = 1; number < 16; number++) {
                due("number", x.add(number / 2, 0, 0), number);
            }
            x.remove();
            x.remove();
            due("the first number that is free", x.add(0, 0, 0), 14);
            due("the next one", x.add(14, 0, 0), 15);
            x.undo();
            due("the same after an undo", x.add(14, 0, 0), 15);
        });
        holds("INVALID_ARGUMENT if an argument is out of range;", x -> {
            due("all of them", x.add(-1, -1, -1), INVALID);
            due("all of them, too large", x.add(1, 6, 16), INVALID);
            due("the classes alone", x.add(0, 0, 16), INVALID);
            due("elements", x.count(0), 1);
            fillElements(x);
            due("though there are 16", x.add(0, 6, 0), INVALID);
        });
        holds("LIMIT_REACHED if there are 16.", x -> {
            fillElements(x);
            due("a seventeenth", x.add(0, 0, 0), LIMIT);
            due("below the last", x.add(15, 5, 15), LIMIT);
            due("elements", x.count(0), 16);
            x.undo();
            due("the sixteenth after an undo", x.add(15 - 1, 0, 0), 15);
            due("and a seventeenth", x.add(0, 0, 0), LIMIT);
        });
        sectionEnds();
    }

    private static void remove() {
        section("Promise 3: remove");
        holds("Removes the last element.", x -> {
            chain(x);
            anyRule(x);
            x.remove();
            due("it is gone", x.element(3, 1), INVALID);
            due("the one before stays", x.element(2, 1), 2);
            due("elements that the rule matches", x.ruleOf(0, 8), 3);
        });
        holds("Returns how many elements remain;", x -> {
            fillElements(x);
            for (int remaining = 15; remaining >= 1; remaining--) {
                due("remaining", x.remove(), remaining);
                due("elements", x.count(0), remaining);
            }
        });
        holds("NOT_POSSIBLE if there is only the root", x -> {
            due("at first", x.remove(), IMPOSSIBLE);
            x.add(0, 0, 0);
            x.remove();
            due("after the last one", x.remove(), IMPOSSIBLE);
            x.rule(-1, 0, -1, 0, 0, 0);
            due("with a rule in its scope", x.remove(), IMPOSSIBLE);
            due("elements", x.count(0), 1);
        });
        holds("or a rule has it as its scope.", x -> {
            chain(x);
            x.rule(-1, 0, -1, 0, 0, 0);
            x.rule(-1, 0, -1, 0, -1, 0);
            x.rule(5, 15, 5, 0, 3, 0);
            x.rule(-1, 0, -1, 0, 2, 0);
            due("a rule that matches nothing", x.remove(), IMPOSSIBLE);
            due("elements", x.count(0), 4);
            x.drop(2);
            due("the scope of another one is above", x.remove(), 3);
            due("which is the last one then", x.remove(), IMPOSSIBLE);
            x.drop(2);
            due("no rule has it any more", x.remove(), 2);
            read(x, "@1{}");
            due("the scope of a rule by a text", x.remove(), IMPOSSIBLE);
            x.undo();
            due("undone", x.remove(), 1);
        });
        holds("or a rule has it as its scope.", x -> {
            for (int rule = 0; rule < 16; rule++) {
                StyleCascade y = made(z -> z.add(0, 0, 0));
                for (int number = 0; number < 16; number++) {
                    y.rule(-1, 0, -1, 0, number == rule ? 1 : number % 2 - 1, 0);
                }
                due("the rule " + rule + " alone", y.remove(), IMPOSSIBLE);
                y.drop(rule);
                due("without the rule " + rule, y.remove(), 1);
            }
        });
        holds("or a rule has it as its scope.", x -> {
            fillElements(x);
            fillRules(x);
            x.drop(0);
            x.rule(-1, 0, -1, 0, 15, 0);
            due("the last rule has the last element", x.remove(), IMPOSSIBLE);
            x.drop(0);
            due("so it has with another number", x.remove(), IMPOSSIBLE);
        });
        sectionEnds();
    }

    private static void dress() {
        section("Promise 4: dress");
        holds("Changes kind and classes of an element.", x -> {
            chain(x);
            x.dress(2, 5, 15);
            due("kind", x.element(2, 1), 5);
            due("classes", x.element(2, 2), 15);
            due("its parent stays", x.element(2, 0), 1);
            due("the one before", x.element(1, 1), 1);
            due("the one behind", x.element(3, 1), 3);
            ruleOfKind(x, 4);
            x.declare(0, 1, 7);
            due("a rule does not match", x.value(2, 1), 0);
            x.dress(2, 4, 0);
            due("it matches then", x.value(2, 1), 7);
        });
        holds("`element`: number of the element", x -> {
            range(0, 0, y -> { }, (y, number) -> y.dress(number, 0, 0));
            range(0, 3, ElementPromisesTest::chain, (y, number) -> y.dress(number, 0, 0));
            range(0, 15, ElementPromisesTest::fillElements, (y, number) -> y.dress(number, 0, 0));
        });
        holds("`kind`: 0 to 5", x -> range(0, 5, y -> { }, (y, kind) -> y.dress(0, kind, 0)));
        holds("`classes`: 0 to 15", x -> range(0, 15, y -> { }, (y, classes) -> y.dress(0, 0, classes)));
        holds("Returns 16 times its previous kind plus its previous classes;", x -> {
            int previous = 0;
            for (int kind = 0; kind <= 5; kind++) {
                for (int classes = 0; classes <= 15; classes++) {
                    due("dress", x.dress(0, kind, classes), previous);
                    previous = 16 * kind + classes;
                }
            }
            due("the greatest", x.dress(0, 0, 0), 95);
            due("the least", x.dress(0, 0, 0), 0);
            x.undo();
            x.undo();
            due("after an undo", x.dress(0, 1, 0), 95);
        });
        holds("INVALID_ARGUMENT if an argument is out of range.", x -> {
            x.dress(0, 3, 3);
            due("all of them", x.dress(1, 6, 16), INVALID);
            due("all of them, too small", x.dress(-1, -1, -1), INVALID);
            due("unchanged", x.dress(0, 0, 0), 51);
        });
        sectionEnds();
    }

    private static void element() {
        section("Promise 5: element");
        holds("Returns a property of an element.", x -> {
            chain(x);
            x.add(1, 4, 9);
            anyRule(x);
            x.refer(0, 8, 8, -1);
            int[] dues = {1, 4, 9, 2, 1, 1};
            for (int what = 0; what < dues.length; what++) {
                due("of 4 " + what, x.element(4, what), dues[what]);
            }
        });
        holds("`element`: number of the element", x -> {
            range(0, 0, y -> { }, (y, number) -> y.element(number, 1));
            range(0, 3, ElementPromisesTest::chain, (y, number) -> y.element(number, 0));
            range(0, 15, ElementPromisesTest::fillElements, (y, number) -> y.element(number, 5));
        });
        holds("`what`: 0: its parent;", x -> {
            range(0, 5, y -> { }, (y, what) -> y.element(0, what));
            deepChain(x, 0);
            for (int number = 1; number < 16; number++) {
                due("parent of " + number, x.element(number, 0), number - 1);
            }
        });
        holds("1: its kind;", x -> {
            for (int kind = 0; kind <= 5; kind++) {
                x.dress(0, kind, 15);
                due("kind", x.element(0, 1), kind);
            }
        });
        holds("2: its classes;", x -> {
            for (int classes = 0; classes <= 15; classes++) {
                x.dress(0, 5, classes);
                due("classes", x.element(0, 2), classes);
            }
        });
        holds("3: steps up to the root;", x -> {
            due("of the root", x.element(0, 3), 0);
            deepChain(x, 0);
            for (int number = 0; number < 16; number++) {
                due("of " + number, x.element(number, 3), number);
            }
            x.remove();
            x.add(0, 0, 0);
            due("of one below the root", x.element(15, 3), 1);
        });
        holds("4: rules that match it;", x -> {
            due("without rules", x.element(0, 4), 0);
            x.add(0, 1, 0);
            for (int rule = 0; rule < 16; rule++) {
                ruleOfKind(x, rule % 4 == 0 ? -1 : rule % 4 == 1 ? 1 : 3);
            }
            due("on the root", x.element(0, 4), 4);
            due("below it", x.element(1, 4), 8);
            x.dress(1, 3, 0);
            due("of another kind", x.element(1, 4), 12);
            x.drop(0);
            due("without the first rule", x.element(1, 4), 11);
            StyleCascade y = made(ElementPromisesTest::fillRules);
            due("all sixteen", y.element(0, 4), 16);
        });
        holds("5: custom properties that are in a cycle on it", x -> {
            x.add(0, 1, 0);
            ruleOfKind(x, 1);
            for (int custom = 8; custom <= 15; custom++) {
                due("so far", x.element(1, 5), custom - 8);
                x.refer(0, custom, custom, 5);
            }
            due("all eight", x.element(1, 5), 8);
            due("none on the root", x.element(0, 5), 0);
            x.refer(0, 8, 9, 5);
            due("the way into a cycle does not count", x.element(1, 5), 7);
        });
        holds("Returns the property;", x -> {
            chain(x);
            due("parent", x.element(3, 0), 2);
            due("once more", x.element(3, 0), 2);
            due("it is no change", x.count(5), 3);
        });
        holds("INVALID_ARGUMENT if an argument is out of range;", x -> {
            due("both", x.element(1, 6), INVALID);
            due("both too small", x.element(-1, -1), INVALID);
            due("what 6", x.element(0, 6), INVALID);
            due("what -1", x.element(0, -1), INVALID);
            due("the parent of nothing", x.element(1, 0), INVALID);
        });
        holds("NOT_FOUND for 0 of the root.", x -> {
            due("alone", x.element(0, 0), MISSING);
            fillElements(x);
            due("with fifteen others", x.element(0, 0), MISSING);
            due("for 1 it is none", x.element(0, 1), 0);
            due("for 3 neither", x.element(0, 3), 0);
        });
        sectionEnds();
    }

    private static void count() {
        section("Promise 6: count");
        holds("Returns a number.", x -> {
            for (int what = 0; what <= 6; what++) {
                due("of a new object " + what, x.count(what), what == 0 ? 1 : 0);
            }
        });
        holds("`what`: 0: elements;", x -> {
            range(0, 6, y -> { }, StyleCascade::count);
            for (int number = 1; number <= 16; number++) {
                due("elements", x.count(0), number);
                x.add(0, 0, 0);
            }
            due("not more", x.count(0), 16);
        });
        holds("1: rules;", x -> {
            for (int number = 0; number <= 16; number++) {
                due("rules", x.count(1), number);
                anyRule(x);
            }
            due("not more", x.count(1), 16);
        });
        holds("2: declarations;", x -> {
            fillRules(x);
            for (int rule = 0; rule < 16; rule++) {
                due("so far", x.count(2), 16 * rule);
                for (int property = 0; property < 16; property++) {
                    x.declare(rule, property, 0);
                }
            }
            due("all", x.count(2), 256);
            x.refer(3, 3, 8, -1);
            due("a reference is one", x.count(2), 256);
            x.undeclare(15, 15);
            due("without the last one", x.count(2), 255);
            x.drop(0);
            due("without those of a rule", x.count(2), 239);
        });
        holds("3: references among them;", x -> {
            fillRules(x);
            for (int rule = 0; rule < 16; rule++) {
                due("so far", x.count(3), 16 * rule);
                for (int property = 0; property < 16; property++) {
                    x.refer(rule, property, 8, rule - 1);
                }
            }
            due("all", x.count(3), 256);
            x.declare(3, 3, 8);
            due("a number is none", x.count(3), 255);
            x.undeclare(0, 0);
            due("without the first one", x.count(3), 254);
            x.drop(15);
            due("without those of the last rule", x.count(3), 238);
        });
        holds("4: custom properties in a cycle, over all elements;", x -> {
            fillElements(x);
            ruleOfKind(x, 1);
            for (int custom = 8; custom <= 15; custom++) {
                due("so far", x.count(4), 15 * (custom - 8));
                x.refer(0, custom, custom, 1);
            }
            x.dress(0, 1, 0);
            due("all on all", x.count(4), 128);
            x.dress(15, 0, 0);
            due("not on the last one", x.count(4), 120);
        });
        holds("5: states in the history;", x -> {
            for (int change = 0; change <= 8; change++) {
                due("states", x.count(5), Math.min(change, 5));
                x.dress(0, 0, 0);
            }
            for (int left = 4; left >= 0; left--) {
                x.undo();
                due("states left", x.count(5), left);
            }
        });
        holds("6: the length of the text", x -> {
            for (int length = 0; length <= 80; length++) {
                due("length", x.count(6), length);
                x.type('a');
            }
            due("not more", x.count(6), 80);
            x.clearText();
            due("emptied", x.count(6), 0);
        });
        holds("Returns the number;", x -> {
            due("elements", x.count(0), 1);
            due("it is no change", x.count(5), 0);
        });
        holds("INVALID_ARGUMENT if what is out of range.", x -> {
            due("-1", x.count(-1), INVALID);
            due("7", x.count(7), INVALID);
        });
        sectionEnds();
    }

    private static void undo() {
        section("Promise 7: undo");
        holds("Restores the latest state of the history", x -> {
            x.add(0, 1, 2);
            anyRule(x);
            x.declare(0, 8, 5);
            x.refer(0, 8, 9, 6);
            read(x, "{0=3;}");
            x.undo();
            due("without the rule of the text", x.count(1), 1);
            due("the fallback", x.value(1, 8), 6);
            x.undo();
            due("the number", x.value(1, 8), 5);
            due("no reference", x.declared(0, 8, 1), MISSING);
            x.undo();
            due("no declaration", x.count(2), 0);
            x.undo();
            due("no rule", x.count(1), 0);
            due("nor a winner", x.winner(1, 8), MISSING);
            x.undo();
            due("no element", x.count(0), 1);
        });
        holds("Restores the latest state of the history", x -> {
            chain(x);
            x.rule(1, 2, 3, 1, 2, 1);
            x.declare(0, 3, 4);
            x.rule(2, 3, 4, 2, -1, 0);
            x.refer(1, 5, 9, 6);
            x.drop(0);
            due("the second one is the first", x.ruleOf(0, 0), 2);
            x.undo();
            int[] parts = {1, 2, 3, 1, 2, 1, 12, 1, 0};
            for (int what = 0; what < parts.length; what++) {
                due("the dropped rule again " + what, x.ruleOf(0, what), parts[what]);
            }
            due("its declaration again", x.declared(0, 3, 0), 4);
            due("the second one again", x.declared(1, 5, 2), 6);
            x.remove();
            x.add(0, 5, 5);
            x.undo();
            x.undo();
            due("the parent of the removed one", x.element(3, 0), 2);
            due("its kind", x.element(3, 1), 3);
        });
        holds("which is removed from it.", x -> {
            x.dress(0, 1, 1);
            x.dress(0, 2, 2);
            x.undo();
            due("the latest", x.element(0, 1), 1);
            x.undo();
            due("the one before it", x.element(0, 1), 0);
            due("undo is not undone", x.undo(), IMPOSSIBLE);
        });
        holds("Returns the number of states that are left in the history;", x -> {
            x.dress(0, 1, 1);
            due("of one", x.undo(), 0);
            for (int change = 0; change < 9; change++) {
                x.dress(0, 1, 1);
            }
            for (int left = 4; left >= 0; left--) {
                due("left", x.undo(), left);
            }
        });
        holds("NOT_POSSIBLE if it is empty.", x -> {
            due("at first", x.undo(), IMPOSSIBLE);
            x.type('a');
            due("a typed character is not undone", x.undo(), IMPOSSIBLE);
            due("it stays", x.count(6), 1);
            x.dress(0, 5, 5);
            x.undo();
            due("after the only one", x.undo(), IMPOSSIBLE);
            due("the root as at first", x.element(0, 1), 0);
            due("states", x.count(5), 0);
            x.dress(0, 5, 5);
            due("there is one again", x.undo(), 0);
        });
        sectionEnds();
    }
}
