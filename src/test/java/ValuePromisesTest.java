/** The promises 16 to 20: the calls of the values. */
public final class ValuePromisesTest extends Sentences {
    public static void main(String[] args) {
        value();
        winner();
        why();
        from();
        cycle();
        finish();
    }

    /** The chain, and a rule for each kind but that of the root: 0 for the kind 1, and so on. */
    private static void chainWithRules(StyleCascade x) {
        chain(x);
        ruleOfKind(x, 1);
        ruleOfKind(x, 2);
        ruleOfKind(x, 3);
    }

    /** The sentences of an element's number, for a call that takes one. */
    private static void elementNumbers(CallOfNumber call) {
        holds("`element`: number of the element", x -> {
            range(0, 0, y -> { }, call);
            range(0, 3, ValuePromisesTest::chainWithRules, call);
            range(0, 15, ValuePromisesTest::fillElements, call);
        });
    }

    private static void value() {
        section("Promise 16: value");
        holds("Returns the value of a property on an element.", x -> {
            chainWithRules(x);
            x.declare(0, 6, 60);
            x.declare(0, 7, 70);
            x.declare(0, 8, 80);
            x.refer(1, 6, 9, 61);
            x.refer(1, 7, 8, 71);
            int[][] dues = {{0, 0, MISSING}, {60, 70, 80}, {61, 80, 80}, {61, 0, 80}};
            for (int element = 0; element < dues.length; element++) {
                for (int property = 6; property <= 8; property++) {
                    due(property + " on " + element, x.value(element, property), dues[element][property - 6]);
                }
            }
        });
        elementNumbers((x, element) -> x.value(element, 0));
        holds("`property`: 0 to 15", x -> range(0, 15, y -> { }, (y, property) -> y.value(0, property)));
        holds("Returns the value;", x -> {
            chainWithRules(x);
            x.declare(0, 0, 999);
            due("the greatest", x.value(1, 0), 999);
            x.declare(0, 0, 0);
            due("after another declaration", x.value(1, 0), 0);
            x.dress(1, 0, 0);
            x.declare(0, 0, 5);
            due("after the rule does not match", x.value(1, 0), 0);
            x.undo();
            x.undo();
            x.undo();
            due("after undo", x.value(1, 0), 999);
            x.drop(0);
            due("after drop", x.value(1, 0), 0);
            read(x, "k1{0=3;}");
            due("after read", x.value(3, 0), 3);
        });
        holds("INVALID_ARGUMENT if an argument is out of range;", x -> {
            due("both", x.value(1, 16), INVALID);
            due("both too small", x.value(-1, -1), INVALID);
        });
        holds("NOT_FOUND if a custom property has none.", x -> {
            chainWithRules(x);
            for (int property = 0; property < 16; property++) {
                due("of " + property, x.value(3, property), property < 8 ? 0 : MISSING);
            }
            x.refer(2, 8, 9, -1);
            due("a reference to one without a value", x.value(3, 8), MISSING);
            x.refer(2, 9, 9, 5);
            due("one in a cycle", x.value(3, 9), MISSING);
            due("a reference to one in a cycle", x.value(3, 8), MISSING);
            x.declare(0, 9, 4);
            due("though there is one above", x.value(3, 9), MISSING);
            x.declare(2, 9, 0);
            due("a value of 0 is one", x.value(3, 8), 0);
        });
        sectionEnds();
    }

    private static void winner() {
        section("Promise 17: winner");
        holds("Returns the rule with the winner.", x -> {
            chainWithRules(x);
            x.rule(-1, 0, -1, 0, -1, 1);
            x.declare(1, 5, 1);
            x.declare(3, 5, 2);
            x.declare(3, 15, 2);
            due("the important one", x.winner(2, 5), 3);
            due("of the last property", x.winner(0, 15), 3);
            x.undeclare(3, 5);
            due("the other one then", x.winner(2, 5), 1);
        });
        elementNumbers((x, element) -> x.winner(element, 0));
        holds("`property`: 0 to 15", x -> range(0, 15, y -> { }, (y, property) -> y.winner(0, property)));
        holds("Returns the rule;", x -> {
            for (int rule = 0; rule < 16; rule++) {
                anyRule(x);
                x.refer(rule, 8, 8, -1);
                due("the last one", x.winner(0, 8), rule);
            }
            for (int rule = 14; rule >= 0; rule--) {
                x.drop(0);
                due("by its new number", x.winner(0, 8), rule);
            }
        });
        holds("INVALID_ARGUMENT if an argument is out of range;", x -> {
            due("both", x.winner(1, 16), INVALID);
            due("both too small", x.winner(-1, -1), INVALID);
        });
        holds("NOT_FOUND if there is none.", x -> {
            due("without rules", x.winner(0, 0), MISSING);
            chainWithRules(x);
            x.declare(0, 2, 5);
            due("a rule that does not match", x.winner(2, 2), MISSING);
            due("though the value is inherited", x.value(2, 2), 5);
            due("a property that is not declared", x.winner(1, 3), MISSING);
            due("a property that is declared", x.winner(1, 2), 0);
        });
        sectionEnds();
    }

    /** On the element 3, ten rules of which eight match and declare the property 9. */
    private static void eightOfTen(StyleCascade x) {
        chain(x);
        x.dress(3, 3, 15);
        x.rule(-1, 0, -1, 0, -1, 0);
        x.rule(3, 1, -1, 0, -1, 0);
        x.rule(-1, 0, -1, 0, 1, 0);
        x.rule(-1, 0, -1, 2, -1, 0);
        x.rule(-1, 0, -1, 2, -1, 1);
        x.rule(-1, 0, -1, 0, -1, 0);
        x.rule(2, 0, -1, 0, -1, 1);
        x.rule(-1, 0, -1, 1, -1, 1);
        x.rule(-1, 0, -1, 0, 2, 0);
        x.rule(-1, 0, -1, 3, -1, 1);
        for (int rule = 0; rule < 9; rule++) {
            x.declare(rule, 9, rule);
        }
    }

    private static void why() {
        section("Promise 18: why");
        holds("Tells about the declarations of a property that match an element, in the order in which they win:"
                + " the winner first, then the one that wins over all others but it, and so on.", x -> {
            eightOfTen(x);
            int[] rules = {7, 4, 3, 8, 2, 1, 5, 0};
            for (int place = 0; place < rules.length; place++) {
                due("rule in place " + place, x.why(3, 9, place, 0), rules[place]);
            }
            due("the first is the winner", x.winner(3, 9), 7);
        });
        elementNumbers((x, element) -> x.why(element, 0, 0, 0));
        holds("`property`: 0 to 15", x -> range(0, 15, y -> { }, (y, property) -> y.why(0, property, 0, 0)));
        holds("`place`: 0 for the winner, and so on", x -> {
            for (int rule = 0; rule < 16; rule++) {
                anyRule(x);
                x.declare(rule, 0, rule);
            }
            for (int place = 0; place < 16; place++) {
                due("in place " + place, x.why(0, 0, place, 0), 15 - place);
            }
            due("behind the last", x.why(0, 0, 16, 0), MISSING);
        });
        holds("`what`: 0: the rule;", x -> {
            range(0, 1, y -> { }, (y, what) -> y.why(0, 0, 0, what));
            anyRule(x);
            anyRule(x);
            x.declare(1, 15, 3);
            due("the only one", x.why(0, 15, 0, 0), 1);
        });
        holds("1: the criterion by which the one before it won over it (0 for the winner)", x -> {
            eightOfTen(x);
            int[] criteria = {0, 2, 1, 2, 3, 3, 4, 5};
            for (int place = 0; place < criteria.length; place++) {
                due("criterion in place " + place, x.why(3, 9, place, 1), criteria[place]);
            }
            x.rule(-1, 0, -1, 3, -1, 0);
            x.declare(10, 0, 1);
            due("of a winner alone", x.why(3, 0, 0, 1), 0);
        });
        holds("Returns the number;", x -> {
            eightOfTen(x);
            due("rule", x.why(3, 9, 7, 0), 0);
            due("criterion", x.why(3, 9, 7, 1), 5);
            x.drop(0);
            due("the last one after a drop", x.why(3, 9, 6, 0), 4);
            due("its criterion", x.why(3, 9, 6, 1), 4);
            due("no eighth", x.why(3, 9, 7, 0), MISSING);
            x.undo();
            due("an eighth after an undo", x.why(3, 9, 7, 0), 0);
        });
        holds("INVALID_ARGUMENT if an argument is out of range (place: negative);", x -> {
            anyRule(x);
            x.declare(0, 0, 1);
            due("place -1", x.why(0, 0, -1, 0), INVALID);
            due("place -2", x.why(0, 0, -2, 1), INVALID);
            due("the least place", x.why(0, 0, Integer.MIN_VALUE, 0), INVALID);
            due("all of them", x.why(1, 16, -1, 2), INVALID);
            due("all of them, too small", x.why(-1, -1, -1, -1), INVALID);
            due("what 2 of no place", x.why(0, 0, 99, 2), INVALID);
            due("what -1 of no place", x.why(0, 0, 99, -1), INVALID);
            due("the property 16 in no place", x.why(0, 16, 99, 0), INVALID);
            due("the element 1 in no place", x.why(1, 0, 99, 0), INVALID);
        });
        holds("NOT_FOUND if there are not so many.", x -> {
            due("without rules", x.why(0, 0, 0, 0), MISSING);
            due("its criterion", x.why(0, 0, 0, 1), MISSING);
            eightOfTen(x);
            for (int what = 0; what <= 1; what++) {
                due("behind the last " + what, x.why(3, 9, 8, what), MISSING);
                due("place 15", x.why(3, 9, 15, what), MISSING);
                due("place 16", x.why(3, 9, 16, what), MISSING);
                due("the greatest place", x.why(3, 9, Integer.MAX_VALUE, what), MISSING);
                due("what is not declared", x.why(3, 10, 0, what), MISSING);
            }
        });
        sectionEnds();
    }

    private static void from() {
        section("Promise 19: from");
        holds("Returns the element from which a value comes: the nearest one from the element up on which the winner"
                + " of this property gives it", x -> {
            chainWithRules(x);
            x.declare(0, 0, 4);
            x.declare(0, 8, 4);
            due("from one above", x.from(2, 0), 1);
            due("from two above", x.from(3, 8), 1);
            x.declare(1, 0, 4);
            due("the nearer one, though it gives the same", x.from(3, 0), 2);
            x.declare(2, 0, 4);
            due("the element itself", x.from(3, 0), 3);
            due("the one above it", x.from(2, 0), 2);
        });
        holds("Returns the element from which a value comes: the nearest one from the element up on which the winner"
                + " of this property gives it", x -> {
            deepChain(x, 1);
            ruleOfKind(x, 0);
            x.declare(0, 0, 1);
            x.declare(0, 15, 1);
            due("a plain one from fifteen steps up", x.from(15, 0), 0);
            due("a custom one from fifteen steps up", x.from(15, 15), 0);
        });
        holds("(by its number, its reference, wherever that comes from, or its fallback).", x -> {
            chainWithRules(x);
            x.declare(0, 8, 4);
            x.declare(1, 0, 0);
            due("by a number of 0", x.from(3, 0), 2);
            x.refer(1, 0, 8, -1);
            due("by a reference to what comes from above", x.from(3, 0), 2);
            x.refer(1, 0, 9, 0);
            due("by a fallback of 0", x.from(3, 0), 2);
            x.refer(1, 9, 8, -1);
            due("a custom one by a reference", x.from(3, 9), 2);
            x.refer(1, 9, 10, 6);
            due("a custom one by a fallback", x.from(3, 9), 2);
            x.refer(1, 8, 10, -1);
            due("past a reference that gives none", x.from(3, 8), 1);
            x.declare(0, 2, 2);
            x.refer(1, 2, 10, -1);
            due("a plain one past such a reference", x.from(3, 2), 1);
        });
        elementNumbers((x, element) -> x.from(element, 0));
        holds("`property`: 0 to 15", x -> range(0, 15, y -> { }, (y, property) -> y.from(0, property)));
        holds("Returns the element;", x -> {
            anyRule(x);
            fillElements(x);
            x.declare(0, 1, 5);
            for (int element = 0; element < 16; element++) {
                due("itself", x.from(element, 1), element);
            }
        });
        holds("INVALID_ARGUMENT if an argument is out of range;", x -> {
            due("both", x.from(1, 16), INVALID);
            due("both too small", x.from(-1, -1), INVALID);
        });
        holds("NOT_FOUND if the property has no value", x -> {
            due("without rules", x.from(0, 8), MISSING);
            chainWithRules(x);
            x.declare(0, 8, 4);
            x.refer(1, 8, 8, 3);
            due("in a cycle", x.from(2, 8), MISSING);
            due("below a cycle", x.from(3, 8), MISSING);
            due("above it", x.from(1, 8), 1);
            x.refer(1, 9, 10, -1);
            due("a reference that gives none", x.from(2, 9), MISSING);
        });
        holds("or it is the value 0 of a plain property that comes from no declaration.", x -> {
            chainWithRules(x);
            for (int plain = 0; plain <= 7; plain++) {
                due("without a declaration", x.from(3, plain), MISSING);
                x.declare(0, plain, 0);
                due("a declared 0", x.from(1, plain), 1);
                due("above it", x.from(0, plain), MISSING);
                due("below it", x.from(3, plain), plain % 2 == 0 ? 1 : MISSING);
                x.refer(0, plain, 8, -1);
                due("a reference that gives none", x.from(1, plain), MISSING);
            }
        });
        sectionEnds();
    }

    private static void cycle() {
        section("Promise 20: cycle");
        holds("Tells whether a custom property is in a cycle on an element.", x -> {
            chainWithRules(x);
            x.refer(1, 8, 9, 1);
            x.refer(1, 9, 8, 1);
            x.refer(1, 10, 8, 1);
            int[] dues = {2, 2, 0, 0};
            for (int custom = 8; custom <= 11; custom++) {
                due("of " + custom, x.cycle(2, custom), dues[custom - 8]);
                due("on the element above " + custom, x.cycle(1, custom), 0);
                due("on the element below " + custom, x.cycle(3, custom), 0);
            }
            x.declare(1, 9, 1);
            due("broken by a number", x.cycle(2, 8), 0);
            x.undo();
            due("undone", x.cycle(2, 8), 2);
        });
        elementNumbers((x, element) -> x.cycle(element, 8));
        holds("`custom`: 8 to 15", x -> range(8, 15, y -> { }, (y, custom) -> y.cycle(0, custom)));
        holds("Returns the number of properties of the cycle", x -> {
            for (int size = 1; size <= 8; size++) {
                StyleCascade y = new StyleCascade();
                anyRule(y);
                for (int custom = 8; custom < 16; custom++) {
                    int last = 7 + size;
                    y.refer(0, custom, custom == last ? 8 : custom < last ? custom + 1 : 8, 1);
                }
                for (int custom = 8; custom < 16; custom++) {
                    due("of " + custom + " by " + size, y.cycle(0, custom), custom < 8 + size ? size : 0);
                }
            }
            anyRule(x);
            x.refer(0, 8, 15, 1);
            x.refer(0, 15, 11, 1);
            x.refer(0, 11, 8, 1);
            x.refer(0, 9, 10, 1);
            x.refer(0, 10, 9, 1);
            due("one of two cycles", x.cycle(0, 15), 3);
            due("the other one", x.cycle(0, 10), 2);
            due("in both", x.element(0, 5), 5);
        });
        holds("0 if it is in none;", x -> {
            due("without rules", x.cycle(0, 15), 0);
            anyRule(x);
            x.refer(0, 8, 9, 1);
            due("a reference to what is not declared", x.cycle(0, 8), 0);
            x.refer(0, 9, 9, 1);
            due("the way into a cycle of one", x.cycle(0, 8), 0);
            x.refer(0, 0, 9, 1);
            due("a plain property is in none", x.element(0, 5), 1);
        });
        holds("INVALID_ARGUMENT if an argument is out of range.", x -> {
            due("a plain property", x.cycle(0, 7), INVALID);
            due("both", x.cycle(1, 16), INVALID);
            due("both too small", x.cycle(-1, -1), INVALID);
            due("custom 0", x.cycle(0, 0), INVALID);
        });
        sectionEnds();
    }
}
