import java.util.ArrayDeque;
import java.util.ArrayList;
import java.util.Deque;
import java.util.List;

/** What the document says of changes and errors: the history, the order of the errors, refused calls. */
public final class ChangesTest extends Sentences {
    /** As many questions as one object has calls left for, after it has been made. */
    private static final int QUESTIONS_AT_ONCE = 300;
    private static final String[] CHANGES = {"add", "remove", "dress", "rule", "drop", "declare", "refer",
        "undeclare", "read"};

    /** A call that answers an error on an object made in some way. */
    private record Refusal(String name, Check made, Call call, int error) { }

    public static void main(String[] args) {
        changes();
        history();
        orderOfErrors();
        refusedCalls();
        numbersOfNothing();
        constants();
        sectionEnds();
        finish();
    }

    // ---- objects, and questions that alter nothing

    /** Three elements, two rules with three declarations, a text; 5 states in the history. */
    private static void small(StyleCascade x) {
        x.add(0, 1, 3);
        x.add(1, 2, 5);
        read(x, "k1L2{0=1;}");
        x.rule(-1, 0, -1, 0, -1, 1);
        x.declare(1, 0, 2);
        x.refer(1, 8, 9, 3);
        x.refer(1, 9, 8, -1);
        write(x, "{3=4;}");
    }

    /** Sixteen elements, sixteen rules, and a text of 80 characters. */
    private static void full(StyleCascade x) {
        for (int number = 1; number < 16; number++) {
            x.add((number - 1) / 2, number % 6, number);
        }
        for (int rule = 0; rule < 16; rule++) {
            x.rule(rule % 3 == 0 ? rule % 6 : -1, 1 << rule % 4 & rule, -1, rule % 4, rule - 1, rule % 2);
            x.declare(rule, 0, rule);
            x.refer(rule, 8 + rule % 8, 8 + rule / 2, rule % 2 == 0 ? rule : -1);
        }
        x.drop(0);
        x.rule(-1, 0, 0, 0, 15, 1);
        write(x, "!{0=11;1=1;2=1;3=1;4=1;5=1;6=1;7=1;8=1;9=1;10=1;11=1;12=1;13=1;14=1;15=$15/999;}");
    }

    /** As full, but with a text that has a fault. */
    private static void fullWithFault(StyleCascade x) {
        full(x);
        write(x, "{16=1;}");
    }

    private static List<Call> questions() {
        List<Call> questions = new ArrayList<>();
        for (int number = 0; number < 16; number++) {
            int n = number;
            for (int other = 0; other < 16; other++) {
                int o = other;
                questions.add(x -> x.element(n, o));
                questions.add(x -> x.ruleOf(n, o));
                questions.add(x -> x.matches(n, o));
                questions.add(x -> x.value(n, o));
                questions.add(x -> x.winner(n, o));
                questions.add(x -> x.from(n, o));
                questions.add(x -> x.cycle(n, o));
                for (int what = 0; what <= 2; what++) {
                    int w = what;
                    questions.add(x -> x.declared(n, o, w));
                    questions.add(x -> x.why(n, o, w, 0));
                    questions.add(x -> x.why(n, o, w, 1));
                }
            }
        }
        for (int what = 0; what <= 6; what++) {
            int w = what;
            if (what != 5) {
                questions.add(x -> x.count(w));
            }
        }
        questions.add(StyleCascade::fault);
        return questions;
    }

    /** Asks both objects the same, on new ones as often as the calls of one do not suffice. */
    private static void alike(String name, Check made, Check likewise) {
        List<Call> questions = questions();
        for (int first = 0; first < questions.size(); first += QUESTIONS_AT_ONCE) {
            StyleCascade x = made(made);
            StyleCascade y = made(likewise);
            int last = Math.min(first + QUESTIONS_AT_ONCE, questions.size());
            for (int number = first; number < last; number++) {
                Call question = questions.get(number);
                due("question " + number + " after " + name, question.on(y), question.on(x));
            }
        }
    }

    /** One of the changes on an object made by small(), ready() or fullBut(). */
    private static int change(StyleCascade x, String name) {
        switch (name) {
            case "add": return x.add(1, 3, 9);
            case "remove": return x.remove();
            case "dress": return x.dress(1, 4, 8);
            case "rule": return x.rule(1, 1, 0, 3, 1, 1);
            case "drop": return x.drop(0);
            case "declare": return x.declare(1, 8, 77);
            case "refer": return x.refer(1, 0, 8, 78);
            case "undeclare": return x.undeclare(1, 0);
            default: return x.read();
        }
    }

    /** What each change needs, in four states. */
    private static void ready(StyleCascade x) {
        x.add(0, 0, 0);
        ruleOfKind(x, 0);
        ruleOfKind(x, 1);
        x.declare(1, 0, 1);
        write(x, "{1=2;}");
    }

    /** As full, with room for the one change. */
    private static void fullBut(StyleCascade x, String name) {
        full(x);
        x.drop(15);
        if (name.equals("add")) {
            x.remove();
        }
    }

    // ---- the changes and their history

    private static void changes() {
        section("Changes and errors");
        holds("The changes are the calls of add, remove, dress, rule, drop, declare, refer, undeclare and read"
                + " that return no error.", x -> {
            for (String name : CHANGES) {
                StyleCascade y = made(ChangesTest::ready);
                accepted(name, change(y, name));
                due("states after " + name, y.count(5), 5);
            }
        });
        holds("The changes are the calls of add, remove, dress, rule, drop, declare, refer, undeclare and read"
                + " that return no error.", x -> {
            due("dress as it is", x.dress(0, 0, 0), 0);
            due("states", x.count(5), 1);
            anyRule(x);
            x.declare(0, 0, 1);
            x.declare(0, 0, 1);
            due("states after declare as it is", x.count(5), 4);
            x.undo();
            x.undo();
            x.refer(0, 0, 8, 1);
            x.refer(0, 0, 8, 1);
            due("states after refer as it is", x.count(5), 4);
        });
        holds("The changes are the calls of add, remove, dress, rule, drop, declare, refer, undeclare and read"
                + " that return no error.", x -> {
            ready(x);
            x.undo();
            x.undo();
            due("undo is none", x.count(5), 2);
            x.type('a');
            x.fault();
            x.clearText();
            x.element(0, 4);
            x.count(4);
            x.ruleOf(0, 8);
            x.declared(0, 0, 0);
            x.matches(0, 0);
            x.value(0, 0);
            x.winner(0, 0);
            x.why(0, 0, 0, 0);
            x.from(0, 0);
            x.cycle(0, 8);
            due("nor is any other", x.count(5), 2);
            x.add(0, 6, 0);
            x.dress(0, 0, 16);
            x.rule(0, 0, 0, 4, 0, 0);
            x.drop(1);
            x.declare(0, 0, 1000);
            x.refer(0, 0, 7, 0);
            x.undeclare(0, 0);
            x.read();
            x.undo();
            x.undo();
            x.remove();
            due("nor what returns an error", x.count(5), 0);
        });
    }

    private static void history() {
        holds("A history of at most 5 states is kept:", x -> {
            due("at first", x.count(5), 0);
            due("undo of nothing", x.undo(), IMPOSSIBLE);
            for (int change = 1; change <= 12; change++) {
                x.dress(0, 0, change);
                due("states", x.count(5), Math.min(change, 5));
            }
            for (int left = 4; left >= 0; left--) {
                due("undo", x.undo(), left);
                due("states left", x.count(5), left);
            }
            due("one undo more", x.undo(), IMPOSSIBLE);
            due("it has changed nothing", x.element(0, 2), 7);
        });
        holds("each change records everything before it but the text", x -> {
            for (String name : CHANGES) {
                undoneAlike("undo of " + name, ChangesTest::small, name);
                undoneAlike("undo of " + name + " on much", y -> fullBut(y, name), name);
            }
        });
        holds("each change records everything before it but the text", x -> {
            small(x);
            x.dress(0, 1, 1);
            x.type('a');
            x.undo();
            due("what was typed stays", x.count(6), 7);
            x.dress(0, 1, 1);
            x.clearText();
            x.undo();
            due("what was emptied stays empty", x.count(6), 0);
        });
        holds("and if there are 6 states then, the oldest one is dropped.", x -> {
            for (int changes = 1; changes <= 23; changes++) {
                StyleCascade y = new StyleCascade();
                for (int change = 1; change <= changes; change++) {
                    y.dress(0, change / 16, change % 16);
                }
                for (int left = Math.min(changes, 5) - 1; left >= 0; left--) {
                    due("undo", y.undo(), left);
                }
                int oldest = Math.max(changes - 5, 0);
                due("the look then", y.dress(0, 0, 0), oldest);
                y.undo();
                due("undo of what is dropped", y.undo(), IMPOSSIBLE);
            }
        });
        holds("and if there are 6 states then, the oldest one is dropped.", x -> {
            Deque<Integer> looks = new ArrayDeque<>();
            int look = 0;
            String turns = "cccccccuuucccccuccuuuuuuccuucccccccccccuuuuuucccccucucucuuuuuu";
            for (int turn = 1; turn <= turns.length(); turn++) {
                if (turns.charAt(turn - 1) == 'c') {
                    looks.addLast(look);
                    if (looks.size() == 6) {
                        looks.removeFirst();
                    }
                    due("change in turn " + turn, x.dress(0, turn / 16, turn % 16), look);
                    look = turn;
                } else {
                    due("undo in turn " + turn, x.undo(), looks.isEmpty() ? IMPOSSIBLE : looks.size() - 1);
                    look = looks.isEmpty() ? look : looks.removeLast();
                }
                due("states in turn " + turn, x.count(5), looks.size());
            }
        });
    }

    private static void undoneAlike(String name, Check made, String change) {
        alike(name, made, x -> {
            made.on(x);
            accepted(change, change(x, change));
            x.undo();
        });
    }

    // ---- the errors

    private static void orderOfErrors() {
        holds("If several errors apply to a call, INVALID_ARGUMENT is returned rather than NOT_POSSIBLE", x -> {
            anyRule(x);
            due("undeclare what is not declared", x.undeclare(0, 3), IMPOSSIBLE);
            due("of no rule", x.undeclare(1, 3), INVALID);
            due("of the rule -1", x.undeclare(-1, 3), INVALID);
            due("of the property 16", x.undeclare(0, 16), INVALID);
            due("of the property -1", x.undeclare(0, -1), INVALID);
        });
        holds("NOT_POSSIBLE rather than LIMIT_REACHED", x -> {
            fillRules(x);
            due("read of the empty text", x.read(), IMPOSSIBLE);
            due("of a fault of form", read(x, "{"), IMPOSSIBLE);
            due("of a fault of range", read(x, "{16=1;}"), IMPOSSIBLE);
            due("of no fault", read(x, "{}"), LIMIT);
        });
        holds("and LIMIT_REACHED rather than NOT_FOUND.", x -> {
            fullOfSameRules(x);
            // No call has both; so each of both is answered where it alone applies, and none goes first.
            due("add", x.add(0, 0, 0), LIMIT);
            due("rule", anyRule(x), LIMIT);
            due("read", x.read(), LIMIT);
            due("fault", x.fault(), MISSING);
            due("value", x.value(0, 8), MISSING);
            due("element", x.element(0, 0), MISSING);
            x.clearText();
            write(x, "~".repeat(80));
            due("type", x.type('~'), LIMIT);
        });
        holds("and LIMIT_REACHED rather than NOT_FOUND.", x -> {
            fullOfSameRules(x);
            write(x, "~".repeat(80));
            due("add below nothing", x.add(16, 0, 0), INVALID);
            due("add of the kind 6", x.add(0, 6, 0), INVALID);
            due("add of the classes 16", x.add(0, 0, 16), INVALID);
            due("rule of the kind 6", x.rule(6, 0, 0, 0, 0, 0), INVALID);
            due("rule of the classes 16", x.rule(0, 16, 0, 0, 0, 0), INVALID);
            due("rule of the ancestor 6", x.rule(0, 0, 6, 0, 0, 0), INVALID);
            due("rule of the layer 4", x.rule(0, 0, 0, 4, 0, 0), INVALID);
            due("rule of the scope 16", x.rule(0, 0, 0, 0, 16, 0), INVALID);
            due("rule of the importance 2", x.rule(0, 0, 0, 0, 0, 2), INVALID);
            due("type of 127", x.type(127), INVALID);
            due("type of 31", x.type(31), INVALID);
            due("the parent of nothing", x.element(16, 0), INVALID);
            due("what 3 of what is not declared", x.declared(0, 0, 3), INVALID);
            due("what 2 of no place", x.why(0, 0, 99, 2), INVALID);
            due("the value 16", x.value(0, 16), INVALID);
        });
    }

    private static void fullOfSameRules(StyleCascade x) {
        fillElements(x);
        fillRules(x);
        write(x, "{}");
    }

    private static void refusedCalls() {
        holds("A call that returns an error changes nothing.", x -> {
            for (Refusal refusal : refusals()) {
                Check refused = y -> {
                    refusal.made.on(y);
                    due(refusal.name, refusal.call.on(y), refusal.error);
                };
                alike(refusal.name, refusal.made, refused);
                historyAlike(refusal, refused);
            }
        });
    }

    /** Each state of the history is the same, one undo after the other, with and without the refused call. */
    private static void historyAlike(Refusal refusal, Check refused) {
        StyleCascade x = made(refusal.made);
        StyleCascade y = made(refused);
        due("states after " + refusal.name, y.count(5), x.count(5));
        for (int turn = 0; turn < 6; turn++) {
            due("undo after " + refusal.name, y.undo(), x.undo());
            for (int what = 0; what <= 6; what++) {
                due("count " + what + " after undo and " + refusal.name, y.count(what), x.count(what));
            }
            for (int number = 0; number < 16; number++) {
                due("look after undo and " + refusal.name, y.element(number, 2), x.element(number, 2));
            }
        }
    }

    private static List<Refusal> refusals() {
        List<Refusal> refusals = new ArrayList<>();
        invalidOnes(refusals, ChangesTest::small);
        invalidOnes(refusals, ChangesTest::full);
        Check none = x -> { };
        refusals.add(new Refusal("undo of nothing", none, StyleCascade::undo, IMPOSSIBLE));
        refusals.add(new Refusal("remove of the root", none, StyleCascade::remove, IMPOSSIBLE));
        refusals.add(new Refusal("read of nothing", none, StyleCascade::read, IMPOSSIBLE));
        refusals.add(new Refusal("value of none", none, x -> x.value(0, 15), MISSING));
        refusals.add(new Refusal("remove of a scope", ChangesTest::full, StyleCascade::remove, IMPOSSIBLE));
        refusals.add(new Refusal("undeclare", ChangesTest::full, x -> x.undeclare(3, 7), IMPOSSIBLE));
        refusals.add(new Refusal("undeclare", ChangesTest::small, x -> x.undeclare(0, 1), IMPOSSIBLE));
        refusals.add(new Refusal("read of a fault", ChangesTest::fullWithFault, StyleCascade::read, IMPOSSIBLE));
        refusals.add(new Refusal("add", ChangesTest::full, x -> x.add(15, 5, 15), LIMIT));
        refusals.add(new Refusal("rule", ChangesTest::full, x -> x.rule(5, 15, 5, 3, 15, 1), LIMIT));
        refusals.add(new Refusal("read", ChangesTest::full, StyleCascade::read, LIMIT));
        refusals.add(new Refusal("type", ChangesTest::full, x -> x.type('}'), LIMIT));
        refusals.add(new Refusal("fault", ChangesTest::full, StyleCascade::fault, MISSING));
        refusals.add(new Refusal("parent", ChangesTest::small, x -> x.element(0, 0), MISSING));
        refusals.add(new Refusal("declared", ChangesTest::small, x -> x.declared(0, 0, 1), MISSING));
        refusals.add(new Refusal("winner", ChangesTest::small, x -> x.winner(0, 7), MISSING));
        refusals.add(new Refusal("why", ChangesTest::small, x -> x.why(0, 0, 1, 0), MISSING));
        refusals.add(new Refusal("from", ChangesTest::small, x -> x.from(0, 8), MISSING));
        refusals.add(new Refusal("value", ChangesTest::small, x -> x.value(0, 8), MISSING));
        return refusals;
    }

    private static void invalidOnes(List<Refusal> refusals, Check made) {
        Call[] calls = {
            x -> x.add(-1, 1, 1), x -> x.add(16, 1, 1), x -> x.add(0, -1, 1), x -> x.add(0, 6, 1),
            x -> x.add(0, 1, -1), x -> x.add(0, 1, 16), x -> x.dress(-1, 1, 1), x -> x.dress(16, 1, 1),
            x -> x.dress(0, -1, 1), x -> x.dress(0, 6, 1), x -> x.dress(0, 1, -1), x -> x.dress(0, 1, 16),
            x -> x.rule(6, 1, 1, 1, 0, 1), x -> x.rule(1, 16, 1, 1, 0, 1), x -> x.rule(1, 1, 6, 1, 0, 1),
            x -> x.rule(1, 1, 1, 4, 0, 1), x -> x.rule(1, 1, 1, 1, 16, 1), x -> x.rule(1, 1, 1, 1, 0, 2),
            x -> x.rule(-2, 1, 1, 1, 0, 1), x -> x.rule(1, -1, 1, 1, 0, 1), x -> x.rule(1, 1, -2, 1, 0, 1),
            x -> x.rule(1, 1, 1, -1, 0, 1), x -> x.rule(1, 1, 1, 1, -2, 1), x -> x.rule(1, 1, 1, 1, 0, -1),
            x -> x.drop(-1), x -> x.drop(16), x -> x.declare(-1, 0, 5), x -> x.declare(16, 0, 5),
            x -> x.declare(0, -1, 5), x -> x.declare(0, 16, 5), x -> x.declare(0, 0, -1),
            x -> x.declare(0, 0, 1000), x -> x.refer(-1, 0, 8, 5), x -> x.refer(16, 0, 8, 5),
            x -> x.refer(0, -1, 8, 5), x -> x.refer(0, 16, 8, 5), x -> x.refer(0, 0, 7, 5),
            x -> x.refer(0, 0, 16, 5), x -> x.refer(0, 0, 8, -2), x -> x.refer(0, 0, 8, 1000),
            x -> x.undeclare(-1, 0), x -> x.undeclare(16, 0), x -> x.undeclare(0, -1), x -> x.undeclare(0, 16),
            x -> x.type(31), x -> x.type(127), x -> x.element(16, 0), x -> x.element(0, 6), x -> x.count(7),
            x -> x.ruleOf(0, 9), x -> x.declared(0, 0, 3), x -> x.matches(16, 0), x -> x.value(0, 16),
            x -> x.winner(0, 16), x -> x.why(0, 0, -1, 0), x -> x.from(0, 16), x -> x.cycle(0, 7)};
        for (int number = 0; number < calls.length; number++) {
            refusals.add(new Refusal("refused call " + number, made, calls[number], INVALID));
        }
    }

    private static void numbersOfNothing() {
        holds("If there is no element or rule with a certain number, this is INVALID_ARGUMENT.", x -> {
            due("there is one element", x.element(0, 1), 0);
            noElement(x, 1, "on a new object");
            chain(x);
            anyRule(x);
            noElement(x, 4, "with four elements");
            x.remove();
            noElement(x, 3, "after a remove");
            x.undo();
            due("there is one after an undo", x.element(3, 1), 3);
            noElement(x, 4, "after an undo");
        });
        holds("If there is no element or rule with a certain number, this is INVALID_ARGUMENT.", x -> {
            fillElements(x);
            anyRule(x);
            noElement(x, 16, "with all elements");
        });
        holds("If there is no element or rule with a certain number, this is INVALID_ARGUMENT.", x -> {
            noRule(x, 0, "on a new object");
            anyRule(x);
            x.declare(0, 0, 1);
            anyRule(x);
            noRule(x, 2, "with two rules");
            x.drop(0);
            noRule(x, 1, "after a drop");
            x.undo();
            due("there is one after an undo", x.ruleOf(1, 0), -1);
            noRule(x, 2, "after an undo");
        });
        holds("If there is no element or rule with a certain number, this is INVALID_ARGUMENT.", x -> {
            fillRules(x);
            noRule(x, 16, "with all rules");
        });
    }

    private static void noElement(StyleCascade x, int first, String when) {
        for (int number : new int[] {first, first + 1, 17, -1, -2, Integer.MIN_VALUE, Integer.MAX_VALUE}) {
            due("add " + number + " " + when, x.add(number, 0, 0), INVALID);
            due("dress " + number + " " + when, x.dress(number, 0, 0), INVALID);
            due("element " + number + " " + when, x.element(number, 0), INVALID);
            due("matches " + number + " " + when, x.matches(0, number), INVALID);
            due("value " + number + " " + when, x.value(number, 0), INVALID);
            due("winner " + number + " " + when, x.winner(number, 0), INVALID);
            due("why " + number + " " + when, x.why(number, 0, 0, 0), INVALID);
            due("from " + number + " " + when, x.from(number, 0), INVALID);
            due("cycle " + number + " " + when, x.cycle(number, 8), INVALID);
            if (number != -1) {
                due("rule in " + number + " " + when, x.rule(0, 0, 0, 0, number, 0), INVALID);
            }
        }
    }

    private static void noRule(StyleCascade x, int first, String when) {
        for (int number : new int[] {first, first + 1, 17, -1, -2, Integer.MIN_VALUE, Integer.MAX_VALUE}) {
            due("drop " + number + " " + when, x.drop(number), INVALID);
            due("declare " + number + " " + when, x.declare(number, 0, 0), INVALID);
            due("refer " + number + " " + when, x.refer(number, 0, 8, 0), INVALID);
            due("undeclare " + number + " " + when, x.undeclare(number, 0), INVALID);
            due("ruleOf " + number + " " + when, x.ruleOf(number, 0), INVALID);
            due("declared " + number + " " + when, x.declared(number, 0, 0), INVALID);
            due("matches " + number + " " + when, x.matches(number, 0), INVALID);
        }
    }

    private static void constants() {
        holds("The constants: `INVALID_ARGUMENT = -11`: An argument is out of its range, or there is no such"
                + " element or rule.", x -> {
            due("INVALID_ARGUMENT", StyleCascade.INVALID_ARGUMENT, -11);
            due("out of its range", x.count(7), -11);
            due("no such element", x.element(1, 1), -11);
            due("no such rule", x.drop(0), -11);
        });
        holds("`NOT_POSSIBLE = -12`: The call is not possible in the present state.", x -> {
            due("NOT_POSSIBLE", StyleCascade.NOT_POSSIBLE, -12);
            due("undo", x.undo(), -12);
        });
        holds("`LIMIT_REACHED = -13`: A fixed limit has been reached.", x -> {
            due("LIMIT_REACHED", StyleCascade.LIMIT_REACHED, -13);
            fillRules(x);
            due("rule", anyRule(x), -13);
        });
        holds("`NOT_FOUND = -14`: There is no such value.", x -> {
            due("NOT_FOUND", StyleCascade.NOT_FOUND, -14);
            due("value", x.value(0, 8), -14);
        });
    }
}
