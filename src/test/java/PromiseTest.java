/** The promises one by one: ordinary inputs, the edges that the document names, and wrong inputs. */
public final class PromiseTest {
    private static final int INVALID = StyleCascade.INVALID_ARGUMENT;
    private static final int IMPOSSIBLE = StyleCascade.NOT_POSSIBLE;
    private static final int LIMIT = StyleCascade.LIMIT_REACHED;
    private static final int MISSING = StyleCascade.NOT_FOUND;
    private static final int[] FAR = {Integer.MIN_VALUE, -1000, -2, 16, 17, 1000, Integer.MAX_VALUE};

    private static int wrong = 0;

    private static void due(String call, int got, int want) {
        if (got != want) {
            wrong++;
            System.out.println(call + " answered " + got + ", due is " + want);
        }
    }

    public static void main(String[] args) {
        constants();
        newObject();
        add();
        remove();
        dress();
        element();
        count();
        undo();
        historyOfFive();
        rule();
        drop();
        declare();
        refer();
        undeclare();
        ruleOf();
        declared();
        matches();
        valueOfCustom();
        valueOfPlain();
        winnerByEachCriterion();
        why();
        from();
        cycle();
        cycleIsLeftAlone();
        type();
        clearText();
        faultOfForm();
        faultOfRange();
        read();
        readLimits();
        System.out.println(wrong == 0 ? "all promises hold" : wrong + " answers are not as due");
        if (wrong != 0) {
            System.exit(1);
        }
    }

    // ---- helpers

    private static int write(StyleCascade x, String text) {
        x.clearText();
        int length = 0;
        for (char sign : text.toCharArray()) {
            length = x.type(sign);
        }
        return length;
    }

    private static void faultDue(StyleCascade x, String text, int want) {
        write(x, text);
        due("fault of " + text, x.fault(), want);
        int rules = x.count(1);
        int states = x.count(5);
        if (want != MISSING) {
            due("read of " + text, x.read(), IMPOSSIBLE);
            due("rules after it", x.count(1), rules);
            due("states after it", x.count(5), states);
        }
    }

    private static int anyRule(StyleCascade x) {
        return x.rule(-1, 0, -1, 0, -1, 0);
    }

    /** A root of the kind 0 with the chain 1 (kind 1) - 2 (kind 2) - 3 (kind 3) below it. */
    private static StyleCascade chain() {
        StyleCascade x = new StyleCascade();
        x.add(0, 1, 0);
        x.add(1, 2, 0);
        x.add(2, 3, 0);
        return x;
    }

    // ---- the promises

    private static void constants() {
        due("INVALID_ARGUMENT", StyleCascade.INVALID_ARGUMENT, -11);
        due("NOT_POSSIBLE", StyleCascade.NOT_POSSIBLE, -12);
        due("LIMIT_REACHED", StyleCascade.LIMIT_REACHED, -13);
        due("NOT_FOUND", StyleCascade.NOT_FOUND, -14);
    }

    private static void newObject() {
        StyleCascade x = new StyleCascade();
        due("1 elements", x.count(0), 1);
        for (int what = 1; what <= 6; what++) {
            due("1 count " + what, x.count(what), 0);
        }
        due("1 kind of root", x.element(0, 1), 0);
        due("1 classes of root", x.element(0, 2), 0);
        for (int property = 0; property < 16; property++) {
            due("1 value " + property, x.value(0, property), property < 8 ? 0 : MISSING);
            due("1 winner " + property, x.winner(0, property), MISSING);
            due("1 from " + property, x.from(0, property), MISSING);
            due("1 why " + property, x.why(0, property, 0, 0), MISSING);
        }
        StyleCascade other = new StyleCascade();
        x.add(0, 1, 1);
        due("1 objects are apart", other.count(0), 1);
    }

    private static void add() {
        StyleCascade x = new StyleCascade();
        due("2 first", x.add(0, 5, 15), 1);
        due("2 second", x.add(1, 0, 0), 2);
        due("2 parent", x.element(2, 0), 1);
        due("2 kind", x.element(1, 1), 5);
        due("2 classes", x.element(1, 2), 15);
        due("2 parent not there", x.add(3, 0, 0), INVALID);
        for (int far : FAR) {
            due("2 parent", x.add(far, 0, 0), INVALID);
            due("2 kind", x.add(0, far, 0), INVALID);
            due("2 classes", x.add(0, 0, far), INVALID);
        }
        due("2 parent -1", x.add(-1, 0, 0), INVALID);
        due("2 kind -1", x.add(0, -1, 0), INVALID);
        due("2 kind 6", x.add(0, 6, 0), INVALID);
        due("2 classes -1", x.add(0, 0, -1), INVALID);
        due("2 errors are no changes", x.count(5), 2);
        for (int number = 3; number < 16; number++) {
            due("2 number", x.add(0, 1, 1), number);
        }
        due("2 a seventeenth", x.add(0, 1, 1), LIMIT);
        due("2 invalid before limit", x.add(0, 6, 1), INVALID);
        due("2 parent 16", x.add(16, 1, 1), INVALID);
        due("2 still 16", x.count(0), 16);
    }

    private static void remove() {
        StyleCascade x = new StyleCascade();
        due("3 root alone", x.remove(), IMPOSSIBLE);
        x.add(0, 1, 1);
        x.add(1, 2, 2);
        x.rule(-1, 0, -1, 0, 2, 0);
        x.rule(-1, 0, -1, 0, 1, 0);
        int states = x.count(5);
        due("3 the scope of a rule", x.remove(), IMPOSSIBLE);
        due("3 no change", x.count(5), states);
        x.drop(0);
        due("3 the scope is gone", x.remove(), 2);
        due("3 element 2 is gone", x.element(2, 1), INVALID);
        due("3 the scope of the other", x.remove(), IMPOSSIBLE);
        x.drop(0);
        due("3 the last but the root", x.remove(), 1);
        due("3 root alone again", x.remove(), IMPOSSIBLE);
        x.add(0, 0, 0);
        anyRule(x);
        x.rule(-1, 0, -1, 0, 1, 0);
        due("3 the scope of a later rule", x.remove(), IMPOSSIBLE);
        x.drop(1);
        due("3 and no more", x.remove(), 1);
        due("3 its number is used again", x.add(0, 3, 4), 1);
        due("3 with its own kind", x.element(1, 1), 3);
        due("3 with its own classes", x.element(1, 2), 4);
    }

    private static void dress() {
        StyleCascade x = new StyleCascade();
        due("4 root", x.dress(0, 5, 15), 0);
        due("4 root again", x.dress(0, 2, 3), 95);
        due("4 kind", x.element(0, 1), 2);
        due("4 classes", x.element(0, 2), 3);
        due("4 the same", x.dress(0, 2, 3), 35);
        due("4 the same is a change", x.count(5), 3);
        for (int far : FAR) {
            due("4 element", x.dress(far, 0, 0), INVALID);
            due("4 kind", x.dress(0, far, 0), INVALID);
            due("4 classes", x.dress(0, 0, far), INVALID);
        }
        due("4 element not there", x.dress(1, 0, 0), INVALID);
        due("4 kind 6", x.dress(0, 6, 0), INVALID);
        due("4 kind -1", x.dress(0, -1, 0), INVALID);
        due("4 classes -1", x.dress(0, 0, -1), INVALID);
        due("4 unchanged", x.dress(0, 0, 0), 35);
        x.rule(4, 0, -1, 0, -1, 0);
        x.declare(0, 1, 7);
        due("4 before", x.value(0, 1), 0);
        x.dress(0, 4, 0);
        due("4 the rule matches then", x.value(0, 1), 7);
    }

    private static void element() {
        StyleCascade x = chain();
        x.add(1, 4, 9);
        due("5 parent of root", x.element(0, 0), MISSING);
        due("5 parent", x.element(4, 0), 1);
        due("5 kind", x.element(4, 1), 4);
        due("5 classes", x.element(4, 2), 9);
        due("5 steps of root", x.element(0, 3), 0);
        due("5 steps", x.element(4, 3), 2);
        due("5 steps of 3", x.element(3, 3), 3);
        anyRule(x);
        x.rule(4, 8, 1, 0, 1, 0);
        due("5 rules on root", x.element(0, 4), 1);
        due("5 rules", x.element(4, 4), 2);
        x.refer(1, 8, 9, -1);
        x.refer(0, 9, 8, -1);
        x.refer(0, 10, 10, 3);
        due("5 cycles", x.element(4, 5), 3);
        due("5 cycles on root", x.element(0, 5), 1);
        due("5 what -1", x.element(0, -1), INVALID);
        due("5 what 6", x.element(0, 6), INVALID);
        due("5 element -1", x.element(-1, 0), INVALID);
        due("5 element 5", x.element(5, 1), INVALID);
        for (int far : FAR) {
            due("5 element", x.element(far, 1), INVALID);
            due("5 what", x.element(0, far), INVALID);
        }
    }

    private static void count() {
        StyleCascade x = chain();
        anyRule(x);
        x.rule(1, 0, -1, 0, -1, 0);
        x.declare(0, 0, 1);
        x.refer(0, 8, 8, -1);
        x.refer(1, 9, 10, 5);
        x.refer(1, 10, 9, -1);
        write(x, "k1");
        due("6 elements", x.count(0), 4);
        due("6 rules", x.count(1), 2);
        due("6 declarations", x.count(2), 4);
        due("6 references", x.count(3), 3);
        due("6 cycles", x.count(4), 4 + 2);
        due("6 states", x.count(5), 5);
        due("6 text", x.count(6), 2);
        x.declare(1, 9, 3);
        due("6 declarations then", x.count(2), 4);
        x.refer(1, 0, 8, -1);
        due("6 a plain property refers too", x.count(3), 3);
        x.undeclare(1, 0);
        due("6 references then", x.count(3), 2);
        due("6 cycles then", x.count(4), 4);
        x.drop(0);
        due("6 declarations without rule 0", x.count(2), 2);
        due("6 references without rule 0", x.count(3), 1);
        due("6 cycles without rule 0", x.count(4), 0);
        due("6 what -1", x.count(-1), INVALID);
        due("6 what 7", x.count(7), INVALID);
        due("6 what far", x.count(Integer.MIN_VALUE), INVALID);
    }

    private static void undo() {
        StyleCascade x = new StyleCascade();
        due("7 empty", x.undo(), IMPOSSIBLE);
        x.add(0, 1, 2);
        anyRule(x);
        x.declare(0, 8, 5);
        x.refer(0, 8, 9, 6);
        write(x, "{}");
        x.read();
        due("7 rules", x.count(1), 2);
        due("7 the read", x.undo(), 4);
        due("7 one rule", x.count(1), 1);
        due("7 the text stays", x.count(6), 2);
        due("7 value by the fallback", x.value(1, 8), 6);
        due("7 the refer", x.undo(), 3);
        due("7 value by the number", x.value(1, 8), 5);
        due("7 its number", x.declared(0, 8, 0), 5);
        due("7 no reference", x.declared(0, 8, 1), MISSING);
        due("7 no fallback", x.declared(0, 8, 2), MISSING);
        due("7 the declare", x.undo(), 2);
        due("7 no value", x.value(1, 8), MISSING);
        due("7 the rule", x.undo(), 1);
        due("7 no rule", x.winner(1, 8), MISSING);
        due("7 no such rule", x.ruleOf(0, 0), INVALID);
        due("7 the element", x.undo(), 0);
        due("7 the root alone", x.count(0), 1);
        due("7 empty again", x.undo(), IMPOSSIBLE);
        x.add(0, 1, 2);
        x.dress(1, 3, 3);
        x.remove();
        due("7 the remove", x.undo(), 2);
        due("7 the dress stands", x.dress(1, 5, 5), 51);
        due("7 undo of a dress", x.undo(), 2);
        due("7 it stands again", x.element(1, 1), 3);
        x.rule(1, 1, 1, 1, 1, 1);
        x.declare(0, 3, 4);
        x.undeclare(0, 3);
        due("7 the undeclare", x.undo(), 4);
        due("7 declared again", x.declared(0, 3, 0), 4);
        x.drop(0);
        due("7 the drop", x.undo(), 4);
        due("7 its scope again", x.ruleOf(0, 4), 1);
        due("7 its declaration again", x.declared(0, 3, 0), 4);
        x.rule(2, 2, 2, 2, -1, 0);
        x.refer(1, 5, 9, 6);
        x.drop(0);
        x.undo();
        due("7 the first rule's kind", x.ruleOf(0, 0), 1);
        due("7 the second rule's kind", x.ruleOf(1, 0), 2);
        due("7 the first rule's number", x.declared(0, 3, 0), 4);
        due("7 the second rule's fallback", x.declared(1, 5, 2), 6);
        x.add(1, 4, 4);
        x.remove();
        x.add(0, 5, 5);
        x.undo();
        x.undo();
        due("7 the parent of before", x.element(2, 0), 1);
        due("7 the kind of before", x.element(2, 1), 4);
        due("7 the classes of before", x.element(2, 2), 4);
    }

    private static void historyOfFive() {
        StyleCascade x = new StyleCascade();
        for (int kind = 1; kind <= 5; kind++) {
            x.dress(0, kind, 0);
            due("7 states", x.count(5), kind);
        }
        x.dress(0, 0, 1);
        x.dress(0, 0, 2);
        due("7 at most five", x.count(5), 5);
        int[] kinds = {0, 5, 4, 3, 2};
        int[] classes = {1, 0, 0, 0, 0};
        for (int left = 4; left >= 0; left--) {
            due("7 left", x.undo(), left);
            due("7 kind", x.element(0, 1), kinds[4 - left]);
            due("7 classes", x.element(0, 2), classes[4 - left]);
        }
        due("7 the oldest are gone", x.undo(), IMPOSSIBLE);
        due("7 kind stays", x.element(0, 1), 2);
        x.dress(0, 3, 3);
        due("7 one state again", x.count(5), 1);
        due("7 it is undone", x.undo(), 0);
        due("7 to the kind", x.element(0, 1), 2);
    }

    private static void rule() {
        StyleCascade x = new StyleCascade();
        x.add(0, 1, 1);
        due("8 first", x.rule(-1, 0, -1, 0, -1, 0), 0);
        due("8 second", x.rule(5, 15, 5, 3, 1, 1), 1);
        due("8 no declarations", x.ruleOf(1, 7), 0);
        for (int far : FAR) {
            due("8 kind", x.rule(far, 0, 0, 0, 0, 0), INVALID);
            due("8 classes", x.rule(0, far, 0, 0, 0, 0), INVALID);
            due("8 ancestor", x.rule(0, 0, far, 0, 0, 0), INVALID);
            due("8 layer", x.rule(0, 0, 0, far, 0, 0), INVALID);
            due("8 scope", x.rule(0, 0, 0, 0, far, 0), INVALID);
            due("8 important", x.rule(0, 0, 0, 0, 0, far), INVALID);
        }
        due("8 kind 6", x.rule(6, 0, 0, 0, 0, 0), INVALID);
        due("8 classes -1", x.rule(0, -1, 0, 0, 0, 0), INVALID);
        due("8 ancestor 6", x.rule(0, 0, 6, 0, 0, 0), INVALID);
        due("8 layer -1", x.rule(0, 0, 0, -1, 0, 0), INVALID);
        due("8 layer 4", x.rule(0, 0, 0, 4, 0, 0), INVALID);
        due("8 scope 2", x.rule(0, 0, 0, 0, 2, 0), INVALID);
        due("8 important 2", x.rule(0, 0, 0, 0, 0, 2), INVALID);
        due("8 important -1", x.rule(0, 0, 0, 0, 0, -1), INVALID);
        due("8 errors are no changes", x.count(5), 3);
        for (int number = 2; number < 16; number++) {
            due("8 number", anyRule(x), number);
        }
        due("8 a seventeenth", anyRule(x), LIMIT);
        due("8 invalid before limit", x.rule(0, 0, 0, 0, 2, 0), INVALID);
        due("8 still 16", x.count(1), 16);
        x.declare(15, 15, 1);
        due("8 the sixteenth has its own", x.declared(15, 15, 0), 1);
        x.drop(15);
        anyRule(x);
        due("8 a new one has none", x.declared(15, 15, 0), MISSING);
        x.refer(15, 15, 14, 3);
        x.drop(15);
        anyRule(x);
        for (int property = 0; property < 16; property++) {
            for (int what = 0; what < 3; what++) {
                due("8 not even a fallback", x.declared(15, property, what), MISSING);
            }
        }
    }

    private static void drop() {
        StyleCascade x = new StyleCascade();
        x.rule(1, 2, 3, 1, 0, 0);
        x.rule(2, 3, 4, 2, -1, 1);
        x.rule(3, 4, 5, 3, 0, 0);
        x.declare(0, 0, 1);
        x.declare(1, 0, 2);
        x.refer(2, 15, 14, 9);
        due("9 rule 3", x.drop(3), INVALID);
        due("9 rule -1", x.drop(-1), INVALID);
        due("9 rule far", x.drop(Integer.MAX_VALUE), INVALID);
        due("9 the middle one", x.drop(1), 2);
        int[] parts = {3, 4, 5, 3, 0, 0};
        for (int what = 0; what < parts.length; what++) {
            due("9 moved part " + what, x.ruleOf(1, what), parts[what]);
        }
        due("9 moved reference", x.declared(1, 15, 1), 14);
        due("9 moved fallback", x.declared(1, 15, 2), 9);
        due("9 the dropped one's is gone", x.declared(1, 0, 0), MISSING);
        due("9 the first stays", x.declared(0, 0, 0), 1);
        due("9 no rule 2", x.ruleOf(2, 0), INVALID);
        due("9 the last one", x.drop(1), 1);
        due("9 the first one", x.drop(0), 0);
        due("9 none left", x.drop(0), INVALID);
    }

    private static void declare() {
        StyleCascade x = new StyleCascade();
        anyRule(x);
        due("10 first", x.declare(0, 0, 0), 1);
        due("10 second", x.declare(0, 15, 999), 2);
        due("10 again", x.declare(0, 0, 5), 2);
        due("10 number", x.declared(0, 0, 0), 5);
        x.refer(0, 3, 8, 4);
        due("10 instead of a reference", x.declare(0, 3, 6), 3);
        due("10 its number", x.declared(0, 3, 0), 6);
        due("10 no reference any more", x.declared(0, 3, 1), MISSING);
        due("10 no fallback any more", x.declared(0, 3, 2), MISSING);
        due("10 number -1", x.declare(0, 0, -1), INVALID);
        due("10 number 1000", x.declare(0, 0, 1000), INVALID);
        due("10 property -1", x.declare(0, -1, 0), INVALID);
        due("10 property 16", x.declare(0, 16, 0), INVALID);
        due("10 rule 1", x.declare(1, 0, 0), INVALID);
        due("10 rule -1", x.declare(-1, 0, 0), INVALID);
        due("10 far", x.declare(Integer.MIN_VALUE, Integer.MAX_VALUE, Integer.MIN_VALUE), INVALID);
        due("10 unchanged", x.declared(0, 0, 0), 5);
    }

    private static void refer() {
        StyleCascade x = new StyleCascade();
        anyRule(x);
        due("11 first", x.refer(0, 0, 8, -1), 1);
        due("11 second", x.refer(0, 15, 15, 999), 2);
        due("11 again", x.refer(0, 0, 9, 0), 2);
        due("11 custom", x.declared(0, 0, 1), 9);
        due("11 fallback 0", x.declared(0, 0, 2), 0);
        x.declare(0, 4, 4);
        due("11 instead of a number", x.refer(0, 4, 10, -1), 3);
        due("11 no number any more", x.declared(0, 4, 0), MISSING);
        due("11 custom 7", x.refer(0, 0, 7, 0), INVALID);
        due("11 custom 16", x.refer(0, 0, 16, 0), INVALID);
        due("11 fallback -2", x.refer(0, 0, 8, -2), INVALID);
        due("11 fallback 1000", x.refer(0, 0, 8, 1000), INVALID);
        due("11 property -1", x.refer(0, -1, 8, 0), INVALID);
        due("11 property 16", x.refer(0, 16, 8, 0), INVALID);
        due("11 rule 1", x.refer(1, 0, 8, 0), INVALID);
        due("11 rule -1", x.refer(-1, 0, 8, 0), INVALID);
        due("11 unchanged", x.declared(0, 0, 1), 9);
    }

    private static void undeclare() {
        StyleCascade x = new StyleCascade();
        anyRule(x);
        x.declare(0, 0, 0);
        x.refer(0, 8, 9, -1);
        due("12 not declared", x.undeclare(0, 1), IMPOSSIBLE);
        due("12 number", x.undeclare(0, 0), 1);
        due("12 gone", x.declared(0, 0, 0), MISSING);
        due("12 no winner", x.winner(0, 0), MISSING);
        due("12 reference", x.undeclare(0, 8), 0);
        for (int what = 0; what < 3; what++) {
            due("12 nothing is left", x.declared(0, 8, what), MISSING);
        }
        due("12 once more", x.undeclare(0, 8), IMPOSSIBLE);
        due("12 property -1", x.undeclare(0, -1), INVALID);
        due("12 property 16", x.undeclare(0, 16), INVALID);
        due("12 rule 1", x.undeclare(1, 0), INVALID);
        due("12 rule -1", x.undeclare(-1, 0), INVALID);
        due("12 errors are no changes", x.count(5), 5);
    }

    private static void ruleOf() {
        StyleCascade x = chain();
        x.dress(2, 2, 13);
        x.rule(2, 13, 1, 3, 1, 1);
        x.declare(0, 0, 0);
        x.refer(0, 1, 8, -1);
        int[] parts = {2, 13, 1, 3, 1, 1, 32, 2, 1};
        for (int what = 0; what < parts.length; what++) {
            due("13 part " + what, x.ruleOf(0, what), parts[what]);
        }
        anyRule(x);
        int[] blank = {-1, 0, -1, 0, -1, 0, 0, 0, 4};
        for (int what = 0; what < blank.length; what++) {
            due("13 blank part " + what, x.ruleOf(1, what), blank[what]);
        }
        x.rule(3, 0, -1, 0, -1, 0);
        x.rule(-1, 15, -1, 0, -1, 0);
        x.rule(-1, 0, 0, 0, -1, 0);
        due("13 a kind is 1", x.ruleOf(2, 6), 1);
        due("13 four classes are 40", x.ruleOf(3, 6), 40);
        due("13 an ancestor is 1", x.ruleOf(4, 6), 1);
        due("13 elements below the root", x.ruleOf(4, 8), 3);
        due("13 what -1", x.ruleOf(0, -1), INVALID);
        due("13 what 9", x.ruleOf(0, 9), INVALID);
        due("13 rule 5", x.ruleOf(5, 0), INVALID);
        due("13 rule -1", x.ruleOf(-1, 0), INVALID);
        due("13 rule far", x.ruleOf(Integer.MAX_VALUE, 0), INVALID);
    }

    private static void declared() {
        StyleCascade x = new StyleCascade();
        anyRule(x);
        x.declare(0, 0, 0);
        x.refer(0, 1, 15, 0);
        x.refer(0, 2, 8, -1);
        int[][] dues = {{0, MISSING, MISSING}, {MISSING, 15, 0}, {MISSING, 8, MISSING},
            {MISSING, MISSING, MISSING}};
        for (int property = 0; property < dues.length; property++) {
            for (int what = 0; what < 3; what++) {
                due("14 " + property + " " + what, x.declared(0, property, what), dues[property][what]);
            }
        }
        due("14 what -1", x.declared(0, 0, -1), INVALID);
        due("14 what 3", x.declared(0, 0, 3), INVALID);
        due("14 property -1", x.declared(0, -1, 0), INVALID);
        due("14 property 16", x.declared(0, 16, 0), INVALID);
        due("14 rule 1", x.declared(1, 0, 0), INVALID);
        due("14 rule -1", x.declared(-1, 0, 0), INVALID);
        due("14 invalid before missing", x.declared(0, 9, 3), INVALID);
    }

    private static void matches() {
        StyleCascade x = chain();
        x.add(0, 1, 6);
        x.add(4, 1, 2);
        anyRule(x);
        x.rule(1, 0, -1, 0, -1, 0);
        x.rule(-1, 6, -1, 0, -1, 0);
        x.rule(-1, 0, 1, 0, -1, 0);
        x.rule(-1, 0, -1, 0, 1, 0);
        x.rule(-1, 0, 0, 0, -1, 0);
        x.rule(1, 2, 1, 3, 4, 1);
        int[][] dues = {
            {1, 1, 1, 1, 1, 1}, {0, 1, 0, 0, 1, 1}, {0, 0, 0, 0, 1, 0}, {0, 0, 1, 1, 0, 1},
            {0, 1, 1, 1, 0, 0}, {0, 1, 1, 1, 1, 1}, {0, 0, 0, 0, 0, 1}};
        for (int rule = 0; rule < dues.length; rule++) {
            for (int element = 0; element < 6; element++) {
                due("15 " + rule + " " + element, x.matches(rule, element), dues[rule][element]);
            }
        }
        due("15 rule 7", x.matches(7, 0), INVALID);
        due("15 rule -1", x.matches(-1, 0), INVALID);
        due("15 element 6", x.matches(0, 6), INVALID);
        due("15 element -1", x.matches(0, -1), INVALID);
        due("15 far", x.matches(Integer.MIN_VALUE, Integer.MAX_VALUE), INVALID);
    }

    private static void valueOfCustom() {
        StyleCascade x = chain();
        x.rule(1, 0, -1, 0, -1, 0);
        x.rule(2, 0, -1, 0, -1, 0);
        x.rule(3, 0, -1, 0, -1, 0);
        x.declare(0, 8, 0);
        due("16 none above", x.value(0, 8), MISSING);
        due("16 number", x.value(1, 8), 0);
        due("16 inherited", x.value(3, 8), 0);
        x.refer(1, 9, 8, 5);
        due("16 reference to an inherited value", x.value(2, 9), 0);
        x.refer(1, 9, 10, 5);
        due("16 fallback", x.value(2, 9), 5);
        due("16 the fallback is inherited", x.value(3, 9), 5);
        x.declare(0, 11, 21);
        x.refer(1, 11, 12, -1);
        due("16 a reference that gives none inherits its own", x.value(2, 11), 21);
        x.refer(2, 13, 11, -1);
        due("16 a reference to that", x.value(3, 13), 21);
        for (int custom = 8; custom < 15; custom++) {
            x.refer(2, custom, custom + 1, -1);
        }
        due("16 nothing at the end of the chain: 11 inherits its own", x.value(3, 11), 21);
        due("16 8 has it through 9 and 10", x.value(3, 8), 21);
        due("16 12 inherits none", x.value(3, 12), MISSING);
        x.declare(2, 15, 99);
        due("16 the whole chain", x.value(3, 8), 99);
        due("16 property -1", x.value(0, -1), INVALID);
        due("16 property 16", x.value(0, 16), INVALID);
        due("16 element -1", x.value(-1, 0), INVALID);
        due("16 element 4", x.value(4, 0), INVALID);
    }

    private static void valueOfPlain() {
        StyleCascade x = chain();
        x.rule(1, 0, -1, 0, -1, 0);
        x.rule(2, 0, -1, 0, -1, 0);
        x.declare(0, 6, 60);
        x.declare(0, 7, 70);
        due("16 even on root", x.value(0, 6), 0);
        due("16 even", x.value(1, 6), 60);
        due("16 odd", x.value(1, 7), 70);
        due("16 even is inherited", x.value(3, 6), 60);
        due("16 odd is not", x.value(3, 7), 0);
        x.refer(1, 6, 8, -1);
        x.refer(1, 7, 8, -1);
        due("16 even without a value of 8", x.value(2, 6), 60);
        due("16 odd without a value of 8", x.value(2, 7), 0);
        x.refer(1, 6, 8, 61);
        x.refer(1, 7, 8, 71);
        due("16 even by its fallback", x.value(2, 6), 61);
        due("16 odd by its fallback", x.value(2, 7), 71);
        x.declare(0, 8, 80);
        due("16 even by 8", x.value(2, 6), 80);
        due("16 odd by 8", x.value(2, 7), 80);
        due("16 even below", x.value(3, 6), 80);
        due("16 odd below", x.value(3, 7), 0);
        x.declare(1, 6, 0);
        due("16 a zero hides the parent's", x.value(2, 6), 0);
    }

    /** Rule 0 against rule 1 on the element 3; the later rule wins unless the criterion says else. */
    private static void duel(String call, int[] first, int[] second, int winner, int criterion) {
        StyleCascade x = chain();
        x.dress(3, 3, 15);
        x.rule(first[0], first[1], first[2], first[3], first[4], first[5]);
        x.rule(second[0], second[1], second[2], second[3], second[4], second[5]);
        x.declare(0, 2, 100);
        x.declare(1, 2, 101);
        due("17 " + call, x.winner(3, 2), winner);
        due("17 value: " + call, x.value(3, 2), 100 + winner);
        due("18 first: " + call, x.why(3, 2, 0, 0), winner);
        due("18 second: " + call, x.why(3, 2, 1, 0), 1 - winner);
        due("18 criterion of the first: " + call, x.why(3, 2, 0, 1), 0);
        due("18 criterion of the second: " + call, x.why(3, 2, 1, 1), criterion);
        due("18 no third: " + call, x.why(3, 2, 2, 0), MISSING);
    }

    private static void winnerByEachCriterion() {
        duel("importance", new int[] {-1, 0, -1, 0, -1, 1}, new int[] {3, 15, 2, 3, 3, 0}, 0, 1);
        duel("the higher layer", new int[] {-1, 0, -1, 1, -1, 0}, new int[] {3, 15, 2, 0, 3, 0}, 0, 2);
        duel("the lower layer", new int[] {-1, 0, -1, 2, -1, 1}, new int[] {3, 15, 2, 3, 3, 1}, 0, 2);
        duel("a scope", new int[] {-1, 0, -1, 1, 0, 0}, new int[] {3, 15, 2, 1, -1, 0}, 0, 3);
        duel("a nearer scope", new int[] {-1, 0, -1, 1, 2, 0}, new int[] {3, 15, 2, 1, 1, 0}, 0, 3);
        duel("its own scope", new int[] {-1, 0, -1, 1, 3, 1}, new int[] {3, 15, 2, 1, 2, 1}, 0, 3);
        duel("classes", new int[] {-1, 1, -1, 0, -1, 0}, new int[] {3, 0, 2, 0, -1, 0}, 0, 4);
        duel("more classes", new int[] {-1, 3, -1, 0, 1, 0}, new int[] {3, 8, 2, 0, 1, 0}, 0, 4);
        duel("a kind", new int[] {3, 0, -1, 0, -1, 0}, new int[] {-1, 0, -1, 0, -1, 0}, 0, 4);
        duel("an ancestor", new int[] {-1, 0, 0, 0, -1, 0}, new int[] {-1, 0, -1, 0, -1, 0}, 0, 4);
        duel("order", new int[] {3, 1, -1, 2, 2, 1}, new int[] {-1, 2, 1, 2, 2, 1}, 1, 5);
        StyleCascade deep = new StyleCascade();
        for (int parent = 0; parent < 15; parent++) {
            deep.add(parent, 0, 0);
        }
        deep.rule(-1, 0, -1, 0, 0, 0);
        deep.rule(0, 0, 0, 0, -1, 0);
        deep.declare(0, 3, 1);
        deep.declare(1, 3, 2);
        due("17 the farthest scope over none", deep.winner(15, 3), 0);
        due("18 by the scope", deep.why(15, 3, 1, 1), 3);
        StyleCascade x = chain();
        x.rule(1, 0, -1, 0, -1, 1);
        x.declare(0, 2, 5);
        due("17 a rule that does not match", x.winner(2, 2), MISSING);
        due("17 a property that is not declared", x.winner(1, 3), MISSING);
        due("17 property -1", x.winner(0, -1), INVALID);
        due("17 property 16", x.winner(0, 16), INVALID);
        due("17 element 4", x.winner(4, 0), INVALID);
        due("17 element -1", x.winner(-1, 0), INVALID);
        due("17 far", x.winner(Integer.MAX_VALUE, Integer.MIN_VALUE), INVALID);
    }

    private static void why() {
        StyleCascade x = chain();
        x.dress(3, 3, 15);
        x.rule(-1, 0, -1, 0, -1, 0);
        x.rule(3, 1, -1, 0, -1, 0);
        x.rule(-1, 0, -1, 0, 1, 0);
        x.rule(-1, 0, -1, 2, -1, 0);
        x.rule(-1, 0, -1, 2, -1, 1);
        x.rule(-1, 0, -1, 0, -1, 0);
        x.rule(2, 0, -1, 0, -1, 1);
        x.rule(-1, 0, -1, 1, -1, 1);
        x.rule(-1, 0, -1, 0, 2, 0);
        x.rule(-1, 0, -1, 3, -1, 1);
        for (int rule = 0; rule < 9; rule++) {
            x.declare(rule, 9, rule);
        }
        int[] rules = {7, 4, 3, 8, 2, 1, 5, 0};
        int[] criteria = {0, 2, 1, 2, 3, 3, 4, 5};
        for (int place = 0; place < rules.length; place++) {
            due("18 rule in place " + place, x.why(3, 9, place, 0), rules[place]);
            due("18 criterion in place " + place, x.why(3, 9, place, 1), criteria[place]);
        }
        due("18 no more", x.why(3, 9, 8, 0), MISSING);
        due("18 no more criteria", x.why(3, 9, 8, 1), MISSING);
        due("18 far place", x.why(3, 9, Integer.MAX_VALUE, 0), MISSING);
        due("18 none at all", x.why(3, 10, 0, 1), MISSING);
        due("18 place -1", x.why(3, 9, -1, 0), INVALID);
        due("18 far negative place", x.why(3, 9, Integer.MIN_VALUE, 0), INVALID);
        due("18 what -1", x.why(3, 9, 0, -1), INVALID);
        due("18 what 2", x.why(3, 9, 0, 2), INVALID);
        due("18 property 16", x.why(3, 16, 0, 0), INVALID);
        due("18 property -1", x.why(3, -1, 0, 0), INVALID);
        due("18 element 4", x.why(4, 9, 0, 0), INVALID);
        due("18 element -1", x.why(-1, 9, 0, 0), INVALID);
        due("18 invalid before missing", x.why(3, 10, 99, 2), INVALID);
    }

    private static void from() {
        StyleCascade x = chain();
        x.rule(1, 0, -1, 0, -1, 0);
        x.rule(2, 0, -1, 0, -1, 0);
        x.declare(0, 0, 0);
        x.declare(0, 1, 0);
        x.declare(0, 8, 4);
        due("19 a declared zero", x.from(1, 0), 1);
        due("19 an inherited zero", x.from(3, 0), 1);
        due("19 an odd zero", x.from(1, 1), 1);
        due("19 an odd property is not inherited", x.from(2, 1), MISSING);
        due("19 not declared above", x.from(0, 0), MISSING);
        due("19 custom", x.from(3, 8), 1);
        due("19 custom without a value", x.from(0, 8), MISSING);
        x.refer(1, 0, 8, -1);
        due("19 a reference, wherever that comes from", x.from(2, 0), 2);
        due("19 inherited from there", x.from(3, 0), 2);
        x.refer(1, 0, 9, 3);
        due("19 a fallback", x.from(3, 0), 2);
        x.refer(1, 0, 9, -1);
        due("19 a reference that gives none", x.from(3, 0), 1);
        x.refer(1, 8, 9, -1);
        due("19 a custom reference that gives none", x.from(3, 8), 1);
        x.refer(1, 8, 8, -1);
        due("19 a cycle", x.from(2, 8), MISSING);
        due("19 below a cycle", x.from(3, 8), MISSING);
        due("19 property -1", x.from(0, -1), INVALID);
        due("19 property 16", x.from(0, 16), INVALID);
        due("19 element 4", x.from(4, 0), INVALID);
        due("19 element -1", x.from(-1, 0), INVALID);
    }

    private static void cycle() {
        StyleCascade x = chain();
        anyRule(x);
        for (int custom = 8; custom < 16; custom++) {
            due("20 no cycle yet", x.cycle(3, custom), 0);
            x.refer(0, custom, custom == 15 ? 8 : custom + 1, 7);
        }
        for (int custom = 8; custom < 16; custom++) {
            due("20 all eight", x.cycle(3, custom), 8);
            due("16 none of them has a value", x.value(3, custom), MISSING);
        }
        due("20 all on all", x.count(4), 32);
        x.refer(0, 15, 14, 7);
        due("20 the way into a cycle", x.cycle(3, 8), 0);
        due("20 the cycle", x.cycle(3, 14), 2);
        due("16 it takes the fallback", x.value(3, 13), 7);
        due("16 and so on", x.value(3, 8), 7);
        x.refer(0, 15, 15, 7);
        due("20 a cycle of one", x.cycle(3, 15), 1);
        due("20 not of the other", x.cycle(3, 14), 0);
        x.rule(2, 0, -1, 0, -1, 0);
        x.declare(1, 15, 3);
        due("20 another winner", x.cycle(2, 15), 0);
        due("16 with its value", x.value(2, 8), 3);
        due("20 custom 7", x.cycle(0, 7), INVALID);
        due("20 custom 16", x.cycle(0, 16), INVALID);
        due("20 custom -1", x.cycle(0, -1), INVALID);
        due("20 element 4", x.cycle(4, 8), INVALID);
        due("20 element -1", x.cycle(-1, 8), INVALID);
    }

    private static void cycleIsLeftAlone() {
        StyleCascade x = chain();
        x.rule(1, 0, -1, 0, -1, 0);
        x.rule(2, 0, -1, 0, -1, 0);
        x.declare(0, 8, 4);
        x.declare(0, 9, 5);
        x.refer(1, 8, 9, 1);
        x.refer(1, 9, 8, 2);
        due("16 no fallback in a cycle", x.value(2, 8), MISSING);
        due("16 a cycle does not inherit", x.value(2, 9), MISSING);
        due("16 its child inherits none", x.value(3, 8), MISSING);
        due("20 its child has no cycle", x.cycle(3, 8), 0);
        x.refer(1, 0, 8, -1);
        x.refer(1, 1, 8, 12);
        x.declare(0, 0, 30);
        due("16 even plain by a cycle", x.value(2, 0), 30);
        due("16 odd plain by a cycle", x.value(2, 1), 12);
    }

    private static void type() {
        StyleCascade x = new StyleCascade();
        due("21 31", x.type(31), INVALID);
        due("21 127", x.type(127), INVALID);
        due("21 -1", x.type(-1), INVALID);
        due("21 far", x.type(Integer.MAX_VALUE), INVALID);
        due("21 32", x.type(32), 1);
        due("21 126", x.type(126), 2);
        for (int length = 3; length <= 80; length++) {
            due("21 length", x.type('a'), length);
        }
        due("21 full", x.type('a'), LIMIT);
        due("21 invalid before limit", x.type(31), INVALID);
        due("21 still full", x.count(6), 80);
        due("21 no change", x.count(5), 0);
    }

    private static void clearText() {
        StyleCascade x = new StyleCascade();
        due("22 empty", x.clearText(), 0);
        write(x, "{1=2;}");
        due("22 length", x.clearText(), 6);
        due("22 empty again", x.count(6), 0);
        due("22 type from the start", write(x, "{}"), 2);
        due("22 no fault by what was there", x.fault(), MISSING);
        due("22 no change", x.count(5), 0);
    }

    private static void faultOfForm() {
        StyleCascade x = new StyleCascade();
        faultDue(x, "", 0);
        faultDue(x, " ", 0);
        faultDue(x, "}", 0);
        faultDue(x, "{", 1);
        faultDue(x, "{}", MISSING);
        faultDue(x, "{} ", 2);
        faultDue(x, "{}}", 2);
        faultDue(x, "k", 1);
        faultDue(x, "k1", 2);
        faultDue(x, "kk{}", 1);
        faultDue(x, "k12{}", 2);
        faultDue(x, "k1k1{}", 2);
        faultDue(x, ".{}", 1);
        faultDue(x, ".1{}", MISSING);
        faultDue(x, ".15{}", MISSING);
        faultDue(x, ".123{}", 3);
        faultDue(x, "<1.1{}", 2);
        faultDue(x, "<12{}", 2);
        faultDue(x, "@00{}", MISSING);
        faultDue(x, "@000{}", 3);
        faultDue(x, "@0<0{}", 2);
        faultDue(x, "L{}", 1);
        faultDue(x, "L0@0{}", 2);
        faultDue(x, "L00{}", 2);
        faultDue(x, "!!{}", 1);
        faultDue(x, "!L0{}", 1);
        faultDue(x, "l0{}", 0);
        faultDue(x, "{=1;}", 1);
        faultDue(x, "{1}", 2);
        faultDue(x, "{123=1;}", 3);
        faultDue(x, "{1=}", 3);
        faultDue(x, "{1=1}", 4);
        faultDue(x, "{1=1234;}", 6);
        faultDue(x, "{1=1;;}", 5);
        faultDue(x, "{1=1;", 5);
        faultDue(x, "{1=1/2;}", 4);
        faultDue(x, "{1=$;}", 4);
        faultDue(x, "{1=$8}", 5);
        faultDue(x, "{1=$123;}", 6);
        faultDue(x, "{1=$8/;}", 6);
        faultDue(x, "{1=$8/1234;}", 9);
        faultDue(x, "{1=$8/123;}", MISSING);
        faultDue(x, "{1=-1;}", 3);
        faultDue(x, "{1=1;2 =1;}", 6);
        faultDue(x, "{1=1;x", 5);
        String full = "{0=1;1=1;2=1;3=1;4=1;5=1;6=1;7=1;8=1;9=1;10=1;11=1;12=1;13=1;14=1;15=100";
        faultDue(x, full, full.length());
        faultDue(x, full + ";}", MISSING);
        StringBuilder long80 = new StringBuilder("{");
        while (long80.length() + 4 <= 80) {
            long80.append("0=1;");
        }
        faultDue(x, long80 + "0=1", 80);
    }

    private static void faultOfRange() {
        StyleCascade x = new StyleCascade();
        faultDue(x, "k5{}", MISSING);
        faultDue(x, "k6{}", 1);
        faultDue(x, ".16{}", 1);
        faultDue(x, "<5{}", MISSING);
        faultDue(x, "<6{}", 1);
        faultDue(x, "@1{}", 1);
        faultDue(x, "k0@01{}", 3);
        faultDue(x, "L3{}", MISSING);
        faultDue(x, "L4{}", 1);
        faultDue(x, "{15=999;}", MISSING);
        faultDue(x, "{16=1;}", 1);
        faultDue(x, "{1=$15;}", MISSING);
        faultDue(x, "{1=$7;}", 4);
        faultDue(x, "{1=$16/5;}", 4);
        faultDue(x, "{1=1;2=2;01=3;}", 9);
        faultDue(x, "{1=1;1=$8;}", 5);
        faultDue(x, "{1=$8;1=1;}", 6);
        faultDue(x, "{8=$9;9=$8;}", MISSING);
        faultDue(x, "{20=1;20=1;}", 1);
        faultDue(x, "{1=$7;1=2;}", 4);
        faultDue(x, "{1=2;1=$7;16=1;}", 5);
        faultDue(x, "k9.99<9@99L9!{99=$99;}", 1);
        faultDue(x, "k9{1=1;1=1;}x", 12);
        faultDue(x, "k9{", 3);
        x.add(0, 0, 0);
        faultDue(x, "@1{}", MISSING);
        faultDue(x, "@2{}", 1);
        x.remove();
        due("23 the element is gone", x.fault(), 1);
        write(x, "@1{}");
        due("23 and that one", x.fault(), 1);
        due("23 no change by fault", x.count(5), 2);
    }

    private static void read() {
        StyleCascade x = new StyleCascade();
        x.add(0, 1, 1);
        write(x, "k5.13<4@01L3!{0=0;07=999;8=$9;15=$08/000;}");
        due("24 first", x.read(), 0);
        int[] parts = {5, 13, 4, 3, 1, 1, 32, 4, 0};
        for (int what = 0; what < parts.length; what++) {
            due("24 part " + what, x.ruleOf(0, what), parts[what]);
        }
        due("24 zero", x.declared(0, 0, 0), 0);
        due("24 a number does not refer", x.declared(0, 0, 1), MISSING);
        due("24 a number has no fallback", x.declared(0, 0, 2), MISSING);
        due("24 a reference has no number", x.declared(0, 8, 0), MISSING);
        due("24 999", x.declared(0, 7, 0), 999);
        due("24 reference", x.declared(0, 8, 1), 9);
        due("24 without a fallback", x.declared(0, 8, 2), MISSING);
        due("24 reference with a fallback", x.declared(0, 15, 1), 8);
        due("24 fallback", x.declared(0, 15, 2), 0);
        due("24 the text stays", x.count(6), 42);
        due("24 one change", x.count(5), 2);
        due("24 again", x.read(), 1);
        due("24 the same", x.declared(1, 15, 1), 8);
        write(x, "{}");
        due("24 blank", x.read(), 2);
        int[] blank = {-1, 0, -1, 0, -1, 0, 0, 0, 2};
        for (int what = 0; what < blank.length; what++) {
            due("24 blank part " + what, x.ruleOf(2, what), blank[what]);
        }
        write(x, "{3=4;}");
        x.read();
        due("24 it is in force", x.value(1, 3), 4);
        x.undo();
        due("24 and no more", x.value(1, 3), 0);
        write(x, "{3=4;");
        due("24 a fault", x.read(), IMPOSSIBLE);
        write(x, "@2{3=4;}");
        due("24 a fault of range", x.read(), IMPOSSIBLE);
        due("24 three rules", x.count(1), 3);
    }

    private static void readLimits() {
        StyleCascade x = new StyleCascade();
        write(x, "{5=6;}");
        for (int number = 0; number < 16; number++) {
            due("24 number", x.read(), number);
        }
        due("24 a seventeenth", x.read(), LIMIT);
        due("24 no change", x.count(1), 16);
        due("24 the last is there", x.declared(15, 5, 0), 6);
        write(x, "{5=6;");
        due("24 not possible before limit", x.read(), IMPOSSIBLE);
    }
}
