/** The promises 8 to 15: the calls of the rules. */
public final class RulePromisesTest extends Sentences {
    public static void main(String[] args) {
        rule();
        drop();
        declare();
        refer();
        undeclare();
        ruleOf();
        declared();
        matches();
        finish();
    }

    /** Four elements and three rules. */
    private static void threeRules(StyleCascade x) {
        chain(x);
        x.rule(1, 2, 3, 1, 0, 0);
        x.rule(2, 3, 4, 2, -1, 1);
        x.rule(3, 4, 5, 3, 1, 0);
    }

    private static void rule() {
        section("Promise 8: rule");
        holds("Adds a rule without declarations.", x -> {
            x.rule(5, 15, 4, 3, 0, 1);
            int[] parts = {5, 15, 4, 3, 0, 1, 42, 0, 0};
            for (int what = 0; what < parts.length; what++) {
                due("part " + what, x.ruleOf(0, what), parts[what]);
            }
            due("declarations", x.count(2), 0);
        });
        holds("Adds a rule without declarations.", x -> {
            fillRules(x);
            for (int property = 0; property < 16; property++) {
                x.refer(15, property, 8, 7);
                x.declare(14, property, 7);
            }
            x.drop(15);
            x.drop(14);
            anyRule(x);
            anyRule(x);
            for (int property = 0; property < 16; property++) {
                for (int what = 0; what < 3; what++) {
                    due("nothing of a dropped one " + what, x.declared(14, property, what), MISSING);
                    due("nothing of the other " + what, x.declared(15, property, what), MISSING);
                }
            }
            x.declare(15, 15, 1);
            due("the sixteenth has its own", x.declared(15, 15, 0), 1);
        });
        holds("`kind`: -1 to 5", x -> range(-1, 5, y -> { }, (y, kind) -> y.rule(kind, 0, 0, 0, 0, 0)));
        holds("`classes`: 0 to 15", x -> range(0, 15, y -> { }, (y, classes) -> y.rule(0, classes, 0, 0, 0, 0)));
        holds("`ancestor`: -1 to 5", x -> range(-1, 5, y -> { }, (y, above) -> y.rule(0, 0, above, 0, 0, 0)));
        holds("`layer`: 0 to 3", x -> range(0, 3, y -> { }, (y, layer) -> y.rule(0, 0, 0, layer, 0, 0)));
        holds("`scope`: number of an element, or -1", x -> {
            range(-1, 0, y -> { }, (y, scope) -> y.rule(0, 0, 0, 0, scope, 0));
            range(-1, 3, RulePromisesTest::chain, (y, scope) -> y.rule(0, 0, 0, 0, scope, 0));
            range(-1, 15, RulePromisesTest::fillElements, (y, scope) -> y.rule(0, 0, 0, 0, scope, 0));
            x.add(0, 0, 0);
            x.remove();
            due("an element that there is no more", x.rule(0, 0, 0, 0, 1, 0), INVALID);
        });
        holds("`important`: 1 or 0", x -> range(0, 1, y -> { }, (y, weight) -> y.rule(0, 0, 0, 0, 0, weight)));
        holds("Returns its number;", x -> {
            for (int number = 0; number < 16; number++) {
                due("number", anyRule(x), number);
            }
            x.drop(0);
            x.drop(0);
            due("behind the last", anyRule(x), 14);
            x.undo();
            due("the same after an undo", anyRule(x), 14);
        });
        holds("INVALID_ARGUMENT if an argument is out of range;", x -> {
            due("all of them", x.rule(6, 16, 6, 4, 1, 2), INVALID);
            due("all of them, too small", x.rule(-2, -1, -2, -1, -2, -1), INVALID);
            due("the first alone", x.rule(6, 0, 0, 0, 0, 0), INVALID);
            due("the last alone", x.rule(0, 0, 0, 0, 0, 2), INVALID);
            due("rules", x.count(1), 0);
            due("states", x.count(5), 0);
            fillRules(x);
            due("though there are 16", x.rule(0, 0, 0, 0, 1, 0), INVALID);
        });
        holds("LIMIT_REACHED if there are 16.", x -> {
            fillRules(x);
            due("a seventeenth", anyRule(x), LIMIT);
            due("rules", x.count(1), 16);
            x.drop(7);
            due("a sixteenth then", anyRule(x), 15);
            due("a seventeenth then", anyRule(x), LIMIT);
            x.undo();
            x.undo();
            due("a seventeenth after undo of both", anyRule(x), LIMIT);
        });
        sectionEnds();
    }

    private static void drop() {
        section("Promise 9: drop");
        holds("Removes a rule;", x -> {
            threeRules(x);
            x.declare(1, 0, 2);
            x.drop(1);
            due("rules", x.count(1), 2);
            due("declarations", x.count(2), 0);
            due("its winner", x.winner(2, 0), MISSING);
        });
        holds("the numbers of the later ones decrease by 1.", x -> {
            threeRules(x);
            x.declare(0, 0, 1);
            x.declare(1, 0, 2);
            x.refer(2, 15, 14, 9);
            x.drop(1);
            int[] parts = {3, 4, 5, 3, 1, 0};
            int[] first = {1, 2, 3, 1, 0, 0};
            for (int what = 0; what < parts.length; what++) {
                due("a later one " + what, x.ruleOf(1, what), parts[what]);
                due("an earlier one " + what, x.ruleOf(0, what), first[what]);
            }
            due("its reference", x.declared(1, 15, 1), 14);
            due("its fallback", x.declared(1, 15, 2), 9);
            due("nothing of the dropped one", x.declared(1, 0, 0), MISSING);
            due("the earlier one's number", x.declared(0, 0, 0), 1);
            due("the last number is free", x.ruleOf(2, 0), INVALID);
        });
        holds("the numbers of the later ones decrease by 1.", x -> {
            for (int rule = 0; rule < 16; rule++) {
                x.rule(-1, rule, -1, 0, -1, 0);
                x.declare(rule, rule, rule);
            }
            x.drop(0);
            for (int rule = 0; rule < 15; rule++) {
                due("classes of " + rule, x.ruleOf(rule, 1), rule + 1);
                due("number of " + rule, x.declared(rule, rule + 1, 0), rule + 1);
                due("not the one of before", x.declared(rule, rule, 0), MISSING);
            }
            x.drop(14);
            for (int rule = 0; rule < 14; rule++) {
                due("without the last one " + rule, x.ruleOf(rule, 1), rule + 1);
            }
        });
        holds("`rule`: number of the rule", x -> {
            range(0, 0, RulePromisesTest::anyRule, StyleCascade::drop);
            range(0, 2, RulePromisesTest::threeRules, StyleCascade::drop);
            range(0, 15, RulePromisesTest::fillRules, StyleCascade::drop);
        });
        holds("Returns how many rules remain;", x -> {
            fillRules(x);
            for (int remaining = 15; remaining >= 0; remaining--) {
                due("remaining", x.drop(remaining / 2), remaining);
            }
        });
        holds("INVALID_ARGUMENT.", x -> {
            due("no rule at all", x.drop(0), INVALID);
            threeRules(x);
            due("rule 3", x.drop(3), INVALID);
            due("rule -1", x.drop(-1), INVALID);
            due("rules", x.count(1), 3);
            x.drop(2);
            due("the last once more", x.drop(2), INVALID);
        });
        sectionEnds();
    }

    private static void declare() {
        section("Promise 10: declare");
        holds("Declares a property by a number", x -> {
            anyRule(x);
            x.declare(0, 0, 0);
            x.declare(0, 15, 999);
            due("the first", x.declared(0, 0, 0), 0);
            due("the last", x.declared(0, 15, 0), 999);
            due("value of the first", x.value(0, 0), 0);
            due("it comes from there", x.from(0, 0), 0);
            due("value of the last", x.value(0, 15), 999);
        });
        holds("instead of what the rule declared for it.", x -> {
            anyRule(x);
            anyRule(x);
            x.declare(0, 3, 1);
            x.declare(1, 3, 9);
            x.declare(0, 3, 2);
            due("instead of a number", x.declared(0, 3, 0), 2);
            x.refer(0, 3, 8, 4);
            x.declare(0, 3, 6);
            due("instead of a reference", x.declared(0, 3, 0), 6);
            due("no reference any more", x.declared(0, 3, 1), MISSING);
            due("no fallback any more", x.declared(0, 3, 2), MISSING);
            due("another rule keeps its own", x.declared(1, 3, 0), 9);
            due("declarations", x.count(2), 2);
        });
        holds("`rule`: number of the rule", x -> {
            range(0, 0, RulePromisesTest::anyRule, (y, rule) -> y.declare(rule, 0, 0));
            range(0, 15, RulePromisesTest::fillRules, (y, rule) -> y.declare(rule, 0, 0));
        });
        holds("`property`: 0 to 15", x -> range(0, 15, RulePromisesTest::anyRule, (y, at) -> y.declare(0, at, 0)));
        holds("`number`: 0 to 999", x -> range(0, 999, RulePromisesTest::anyRule, (y, at) -> y.declare(0, 0, at)));
        holds("Returns how many declarations the rule has then;", x -> {
            anyRule(x);
            anyRule(x);
            x.declare(0, 0, 1);
            for (int property = 0; property < 16; property++) {
                due("with one more", x.declare(1, property, 1), property + 1);
                due("with the same", x.declare(1, property, 2), property + 1);
            }
        });
        holds("INVALID_ARGUMENT if an argument is out of range.", x -> {
            anyRule(x);
            x.declare(0, 0, 5);
            due("all of them", x.declare(1, 16, 1000), INVALID);
            due("all of them, too small", x.declare(-1, -1, -1), INVALID);
            due("unchanged", x.declared(0, 0, 0), 5);
            due("declarations", x.count(2), 1);
        });
        sectionEnds();
    }

    private static void refer() {
        section("Promise 11: refer");
        holds("Declares a property by a reference", x -> {
            anyRule(x);
            x.refer(0, 0, 8, -1);
            x.refer(0, 15, 15, 999);
            due("of the first", x.declared(0, 0, 1), 8);
            due("without a fallback", x.declared(0, 0, 2), MISSING);
            due("of the last, to itself", x.declared(0, 15, 1), 15);
            due("with a fallback", x.declared(0, 15, 2), 999);
        });
        holds("instead of what the rule declared for it.", x -> {
            anyRule(x);
            x.declare(0, 4, 4);
            x.refer(0, 4, 10, 1);
            due("instead of a number", x.declared(0, 4, 0), MISSING);
            x.refer(0, 4, 9, 0);
            due("instead of a reference", x.declared(0, 4, 1), 9);
            due("its fallback", x.declared(0, 4, 2), 0);
            x.refer(0, 4, 9, -1);
            due("without the fallback of before", x.declared(0, 4, 2), MISSING);
            due("declarations", x.count(2), 1);
        });
        holds("`rule`: number of the rule", x -> {
            range(0, 0, RulePromisesTest::anyRule, (y, rule) -> y.refer(rule, 0, 8, 0));
            range(0, 15, RulePromisesTest::fillRules, (y, rule) -> y.refer(rule, 0, 8, 0));
        });
        holds("`property`: 0 to 15", x -> range(0, 15, RulePromisesTest::anyRule, (y, at) -> y.refer(0, at, 8, 0)));
        holds("`custom`: 8 to 15", x -> range(8, 15, RulePromisesTest::anyRule, (y, at) -> y.refer(0, 0, at, 0)));
        holds("`fallback`: 0 to 999, or -1", x ->
                range(-1, 999, RulePromisesTest::anyRule, (y, at) -> y.refer(0, 0, 8, at)));
        holds("Returns how many declarations the rule has then;", x -> {
            anyRule(x);
            anyRule(x);
            x.refer(0, 0, 8, 1);
            for (int property = 0; property < 16; property++) {
                due("with one more", x.refer(1, property, 8, -1), property + 1);
                due("with the same", x.refer(1, property, 9, 0), property + 1);
            }
        });
        holds("INVALID_ARGUMENT if an argument is out of range.", x -> {
            anyRule(x);
            x.refer(0, 0, 8, 5);
            due("all of them", x.refer(1, 16, 16, 1000), INVALID);
            due("all of them, too small", x.refer(-1, -1, 7, -2), INVALID);
            due("unchanged", x.declared(0, 0, 2), 5);
            due("references", x.count(3), 1);
        });
        sectionEnds();
    }

    private static void undeclare() {
        section("Promise 12: undeclare");
        holds("Takes a declaration out of a rule.", x -> {
            anyRule(x);
            anyRule(x);
            x.declare(0, 0, 0);
            x.declare(1, 0, 5);
            x.refer(1, 8, 9, 7);
            x.undeclare(1, 0);
            due("the number", x.declared(1, 0, 0), MISSING);
            due("another rule keeps its own", x.winner(0, 0), 0);
            x.undeclare(1, 8);
            for (int what = 0; what < 3; what++) {
                due("nothing of the reference", x.declared(1, 8, what), MISSING);
            }
            due("no value", x.value(0, 8), MISSING);
            due("declarations", x.count(2), 1);
        });
        holds("`rule`: number of the rule", x -> {
            range(0, 0, RulePromisesTest::anyRule, (y, rule) -> y.undeclare(rule, 0));
            range(0, 15, RulePromisesTest::fillRules, (y, rule) -> y.undeclare(rule, 0));
        });
        holds("`property`: 0 to 15", x -> range(0, 15, RulePromisesTest::anyRule, (y, at) -> y.undeclare(0, at)));
        holds("Returns how many declarations the rule has then;", x -> {
            anyRule(x);
            for (int property = 0; property < 16; property++) {
                x.declare(0, property, 1);
            }
            for (int property = 0; property < 16; property++) {
                due("then", x.undeclare(0, property), 15 - property);
            }
        });
        holds("INVALID_ARGUMENT if an argument is out of range;", x -> {
            due("no rule at all", x.undeclare(0, 0), INVALID);
            anyRule(x);
            due("both", x.undeclare(1, 16), INVALID);
            due("both too small", x.undeclare(-1, -1), INVALID);
            due("states", x.count(5), 1);
        });
        holds("NOT_POSSIBLE if it does not declare it.", x -> {
            anyRule(x);
            for (int property = 0; property < 16; property++) {
                due("an empty rule", x.undeclare(0, property), IMPOSSIBLE);
            }
            x.refer(0, 8, 9, -1);
            due("what it refers to", x.undeclare(0, 9), IMPOSSIBLE);
            due("what it declares", x.undeclare(0, 8), 0);
            due("once more", x.undeclare(0, 8), IMPOSSIBLE);
            due("states", x.count(5), 3);
            x.undo();
            due("after an undo", x.undeclare(0, 8), 0);
            anyRule(x);
            x.declare(0, 3, 3);
            due("what another rule declares", x.undeclare(1, 3), IMPOSSIBLE);
        });
        sectionEnds();
    }

    private static void ruleOf() {
        section("Promise 13: ruleOf");
        holds("Returns a property of a rule.", x -> {
            chain(x);
            x.dress(2, 2, 13);
            x.rule(2, 13, 1, 3, 1, 1);
            x.declare(0, 0, 0);
            x.refer(0, 1, 8, -1);
            int[] parts = {2, 13, 1, 3, 1, 1, 32, 2, 1};
            for (int what = 0; what < parts.length; what++) {
                due("part " + what, x.ruleOf(0, what), parts[what]);
            }
        });
        holds("`rule`: number of the rule", x -> {
            range(0, 0, RulePromisesTest::anyRule, (y, rule) -> y.ruleOf(rule, 0));
            range(0, 15, RulePromisesTest::fillRules, (y, rule) -> y.ruleOf(rule, 8));
        });
        part("`what`: 0: its kind;", 0, -1, 5);
        part("1: its classes;", 1, 0, 15);
        part("2: its ancestor;", 2, -1, 5);
        part("3: its layer;", 3, 0, 3);
        part("4: its scope;", 4, -1, 12);
        part("5: 1 if it is important, otherwise 0;", 5, 0, 1);
        holds("6: its specificity;", x -> {
            x.rule(-1, 0, -1, 3, 0, 1);
            due("the least", x.ruleOf(0, 6), 0);
            x.rule(0, 15, 0, 0, -1, 0);
            due("the greatest", x.ruleOf(1, 6), 42);
        });
        holds("7: its declarations;", x -> {
            anyRule(x);
            anyRule(x);
            for (int property = 0; property < 16; property++) {
                due("so far", x.ruleOf(1, 7), property);
                x.refer(1, property, 8, -1);
            }
            due("all", x.ruleOf(1, 7), 16);
            due("none of the other", x.ruleOf(0, 7), 0);
        });
        holds("8: elements that it matches", x -> {
            fillElements(x);
            anyRule(x);
            due("all", x.ruleOf(0, 8), 16);
            ruleOfKind(x, 5);
            due("none", x.ruleOf(1, 8), 0);
            ruleOfKind(x, 0);
            due("the root", x.ruleOf(2, 8), 1);
            x.rule(-1, 0, 0, 0, -1, 0);
            due("all but the root", x.ruleOf(3, 8), 15);
            x.dress(15, 5, 0);
            due("the last one", x.ruleOf(1, 8), 1);
            x.remove();
            due("it is removed", x.ruleOf(1, 8), 0);
        });
        holds("Returns the property (-1 for 0, 2 and 4 if there is none);", x -> {
            anyRule(x);
            int[] parts = {-1, 0, -1, 0, -1, 0, 0, 0, 1};
            for (int what = 0; what < parts.length; what++) {
                due("part " + what, x.ruleOf(0, what), parts[what]);
            }
        });
        holds("INVALID_ARGUMENT if an argument is out of range.", x -> {
            range(0, 8, RulePromisesTest::anyRule, (y, what) -> y.ruleOf(0, what));
            due("no rule at all", x.ruleOf(0, 0), INVALID);
            due("both", x.ruleOf(0, 9), INVALID);
            due("both too small", x.ruleOf(-1, -1), INVALID);
        });
        sectionEnds();
    }

    /** The part with a number, for each of its values, while the others stay at one that is not 0. */
    private static void part(String sentence, int what, int least, int most) {
        holds(sentence, x -> {
            fillElements(x);
            int[] others = {3, 5, 4, 2, 1, 1};
            for (int number = least; number <= most; number++) {
                int[] p = others.clone();
                p[what] = number;
                int rule = x.rule(p[0], p[1], p[2], p[3], p[4], p[5]);
                due("of rule " + rule, x.ruleOf(rule, what), number);
            }
        });
    }

    private static void declared() {
        section("Promise 14: declared");
        holds("Returns something of a declaration.", x -> {
            anyRule(x);
            x.declare(0, 0, 7);
            x.refer(0, 1, 15, 6);
            due("number", x.declared(0, 0, 0), 7);
            due("custom", x.declared(0, 1, 1), 15);
            due("fallback", x.declared(0, 1, 2), 6);
            due("it is no change", x.count(5), 3);
        });
        holds("`rule`: number of the rule", x -> {
            range(0, 0, RulePromisesTest::anyRule, (y, rule) -> y.declared(rule, 0, 0));
            range(0, 15, RulePromisesTest::fillRules, (y, rule) -> y.declared(rule, 0, 0));
        });
        holds("`property`: 0 to 15", x -> range(0, 15, RulePromisesTest::anyRule, (y, at) -> y.declared(0, at, 0)));
        holds("`what`: 0: its number;", x -> {
            range(0, 2, RulePromisesTest::anyRule, (y, what) -> y.declared(0, 0, what));
            anyRule(x);
            x.declare(0, 0, 0);
            x.declare(0, 15, 999);
            due("the least", x.declared(0, 0, 0), 0);
            due("the greatest", x.declared(0, 15, 0), 999);
        });
        holds("1: the custom property to which it refers;", x -> {
            anyRule(x);
            x.refer(0, 0, 8, 5);
            x.refer(0, 15, 15, 5);
            due("the least", x.declared(0, 0, 1), 8);
            due("the greatest", x.declared(0, 15, 1), 15);
        });
        holds("2: its fallback", x -> {
            anyRule(x);
            x.refer(0, 0, 8, 0);
            x.refer(0, 15, 15, 999);
            due("the least", x.declared(0, 0, 2), 0);
            due("the greatest", x.declared(0, 15, 2), 999);
        });
        holds("Returns the number;", x -> {
            anyRule(x);
            anyRule(x);
            x.declare(0, 3, 1);
            x.declare(1, 3, 2);
            due("of the first rule", x.declared(0, 3, 0), 1);
            due("of the second one", x.declared(1, 3, 0), 2);
        });
        holds("INVALID_ARGUMENT if an argument is out of range;", x -> {
            anyRule(x);
            due("all of them", x.declared(1, 16, 3), INVALID);
            due("all of them, too small", x.declared(-1, -1, -1), INVALID);
            due("what 3 of what is not declared", x.declared(0, 9, 3), INVALID);
            due("what -1 of what is not declared", x.declared(0, 9, -1), INVALID);
        });
        holds("NOT_FOUND if the rule does not declare it", x -> {
            anyRule(x);
            anyRule(x);
            x.declare(1, 4, 4);
            for (int property = 0; property < 16; property++) {
                for (int what = 0; what < 3; what++) {
                    due(property + " " + what, x.declared(0, property, what), MISSING);
                }
            }
        });
        holds("for 0 if it refers", x -> {
            anyRule(x);
            x.refer(0, 2, 8, 5);
            x.refer(0, 3, 8, -1);
            due("with a fallback", x.declared(0, 2, 0), MISSING);
            due("without one", x.declared(0, 3, 0), MISSING);
        });
        holds("for 1 and 2 if it does not", x -> {
            anyRule(x);
            x.declare(0, 2, 0);
            due("1", x.declared(0, 2, 1), MISSING);
            due("2", x.declared(0, 2, 2), MISSING);
        });
        holds("for 2 if it has no fallback.", x -> {
            anyRule(x);
            x.refer(0, 2, 8, -1);
            due("2", x.declared(0, 2, 2), MISSING);
            due("1 is there", x.declared(0, 2, 1), 8);
        });
        sectionEnds();
    }

    private static void matches() {
        section("Promise 15: matches");
        holds("Tells whether a rule matches an element.", x -> {
            chain(x);
            x.add(0, 1, 6);
            x.add(4, 1, 2);
            anyRule(x);
            ruleOfKind(x, 1);
            x.rule(-1, 6, -1, 0, -1, 0);
            x.rule(-1, 0, 1, 0, -1, 0);
            x.rule(-1, 0, -1, 0, 1, 0);
            x.rule(-1, 0, 0, 0, -1, 0);
            x.rule(1, 2, 1, 3, 4, 1);
            int[][] dues = {
                {1, 1, 1, 1, 1, 1}, {0, 1, 0, 0, 1, 1}, {0, 0, 0, 0, 1, 0}, {0, 0, 1, 1, 0, 1},
                {0, 1, 1, 1, 0, 0}, {0, 1, 1, 1, 1, 1}, {0, 0, 0, 0, 0, 1}};
            for (int rule = 0; rule < dues.length; rule++) {
                for (int element = 0; element < 6; element++) {
                    due(rule + " on " + element, x.matches(rule, element), dues[rule][element]);
                }
            }
        });
        holds("`rule`: number of the rule", x -> {
            range(0, 0, RulePromisesTest::anyRule, (y, rule) -> y.matches(rule, 0));
            range(0, 15, RulePromisesTest::fillRules, (y, rule) -> y.matches(rule, 0));
        });
        holds("`element`: number of the element", x -> {
            range(0, 0, RulePromisesTest::anyRule, (y, element) -> y.matches(0, element));
            range(0, 3, RulePromisesTest::threeRules, (y, element) -> y.matches(0, element));
        });
        holds("Returns 1 or 0;", x -> {
            x.add(0, 2, 0);
            anyRule(x);
            ruleOfKind(x, 1);
            for (int element = 0; element <= 1; element++) {
                due("any", x.matches(0, element), 1);
                due("another kind", x.matches(1, element), 0);
            }
            x.dress(1, 1, 0);
            due("then", x.matches(1, 1), 1);
            x.undo();
            due("undone", x.matches(1, 1), 0);
        });
        holds("INVALID_ARGUMENT.", x -> {
            due("no rule at all", x.matches(0, 0), INVALID);
            anyRule(x);
            due("both", x.matches(1, 1), INVALID);
            due("both too small", x.matches(-1, -1), INVALID);
        });
        sectionEnds();
    }
}
