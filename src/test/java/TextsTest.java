/** The texts: what the document says of their form and of their faults, and the promises 21 to 24. */
public final class TextsTest extends Sentences {
    /** Every part and every kind of a declaration. */
    private static final String WHOLE = "k5.15<4@00L3!{0=1;07=999;8=$9;15=$08/000;}";
    /** A text of 80 characters without a fault. */
    private static final String LONGEST =
            "!{0=11;1=1;2=1;3=1;4=1;5=1;6=1;7=1;8=1;9=1;10=1;11=1;12=1;13=1;14=1;15=$15/999;}";
    private static final String[] PARTS = {"k1", ".1", "<1", "@0", "L1", "!"};

    public static void main(String[] args) {
        form();
        declarations();
        faultOfForm();
        faultOfRange();
        type();
        clearText();
        fault();
        read();
        finish();
    }

    // ---- the form

    private static void form() {
        section("Texts");
        holds("There is a text of at most 80 characters", x -> {
            for (int length = 1; length <= 80; length++) {
                due("length", x.type(32 + length), length);
            }
            due("one more", x.type('{'), LIMIT);
            due("length then", x.count(6), 80);
            due("all 80 of a rule are kept", write(x, LONGEST), 80);
            due("and read", x.read(), 0);
            due("to the last number", x.declared(0, 15, 2), 999);
        });
        holds("initially empty: a rule:", x -> {
            due("length", x.count(6), 0);
            due("it ends too early", x.fault(), 0);
            due("it is no rule", x.read(), IMPOSSIBLE);
            due("nothing to clear", x.clearText(), 0);
        });
        holds("optional parts in this order:", x -> {
            for (int mask = 0; mask < 64; mask++) {
                StringBuilder parts = new StringBuilder();
                for (int part = 0; part < PARTS.length; part++) {
                    parts.append((mask >> part & 1) == 1 ? PARTS[part] : "");
                }
                faultDue(parts + "{}", MISSING);
            }
        });
        holds("optional parts in this order:", x -> {
            for (int later = 0; later < PARTS.length; later++) {
                for (int part = 0; part <= later; part++) {
                    faultDue(PARTS[later] + PARTS[part] + "{}", PARTS[later].length());
                }
            }
        });
        partOfOneDigit("\"k\" and a digit (its kind)", "k", 0, 5);
        partOfTwoDigits("\".\" and a number of 1 or 2 digits (its classes)", ".", 1, 15);
        partOfOneDigit("\"<\" and a digit (its ancestor)", "<", 2, 5);
        partOfTwoDigits("\"@\" and a number of 1 or 2 digits (its scope)", "@", 4, 11);
        partOfOneDigit("\"L\" and a digit (its layer, otherwise 0)", "L", 3, 3);
        holds("\"!\" (important);", x -> {
            due("with it", read(x, "!{}"), 0);
            due("it is important", x.ruleOf(0, 5), 1);
            due("without it", read(x, "{}"), 1);
            due("it is not", x.ruleOf(1, 5), 0);
            faultDue(x, "!!{}", 1);
            faultDue(x, "!1{}", 1);
        });
        holds("then \"{\", declarations (perhaps none), and \"}\" as the last character.", x -> {
            faultDue("{}", MISSING);
            faultDue("{", 1);
            faultDue("}", 0);
            faultDue("{{}", 1);
            faultDue("{}}", 2);
            faultDue("{}{}", 2);
            faultDue("{} ", 2);
            faultDue("{}k1", 2);
            faultDue(" {}", 0);
            faultDue("{ }", 1);
            faultDue("{1=1;", 5);
            faultDue("{1=1;}", MISSING);
            faultDue("{1=1;}2=2;", 6);
            faultDue("k1", 2);
            faultDue("1=1;}", 0);
        });
    }

    /** A sign and a digit: what of them the rule has, which digits are taken, and the form. */
    private static void partOfOneDigit(String sentence, String sign, int what, int most) {
        holds(sentence, x -> {
            for (int digit = 0; digit <= 9; digit++) {
                String text = sign + digit + "{}";
                faultDue(text, digit <= most ? MISSING : 1);
                StyleCascade y = new StyleCascade();
                due("read of " + text, read(y, text), digit <= most ? 0 : IMPOSSIBLE);
                due("what is read of " + text, y.ruleOf(0, what), digit <= most ? digit : INVALID);
            }
            read(x, "{}");
            due("without it", x.ruleOf(0, what), sign.equals("L") ? 0 : -1);
            faultDue(sign, 1);
            faultDue(sign + "{}", 1);
            faultDue(sign + "11{}", 2);
            faultDue(sign + sign + "{}", 1);
            faultDue(sign + "1", 2);
        });
    }

    /** A sign and a number of one or two digits, with twelve elements. */
    private static void partOfTwoDigits(String sentence, String sign, int what, int most) {
        holds(sentence, x -> {
            for (int number = 0; number <= 99; number++) {
                StyleCascade y = new StyleCascade();
                for (int element = 1; element <= 11; element++) {
                    y.add(0, 0, 0);
                }
                String text = sign + number + "{}";
                faultDue(y, text, number <= most ? MISSING : 1);
                due("read of " + text, y.read(), number <= most ? 0 : IMPOSSIBLE);
                due("what is read of " + text, y.ruleOf(0, what), number <= most ? number : INVALID);
                String two = sign + number / 10 + number % 10 + "{}";
                faultDue(y, two, number <= most ? MISSING : 1);
            }
            read(x, "{}");
            due("without it", x.ruleOf(0, what), what == 1 ? 0 : -1);
            faultDue(sign, 1);
            faultDue(sign + "{}", 1);
            faultDue(sign + "000{}", 3);
            faultDue(sign + "00", 3);
            faultDue(sign + sign + "{}", 1);
        });
    }

    private static void declarations() {
        holds("A declaration is a property (1 or 2 digits)", x -> {
            for (int property = 0; property <= 99; property++) {
                due("in one digit or two", read(x, "{" + property + "=5;}"), property <= 15 ? 0 : IMPOSSIBLE);
                due("what is read", x.declared(0, property, 0), property <= 15 ? 5 : INVALID);
                x = new StyleCascade();
                due("in two digits", read(x, "{" + property / 10 + property % 10 + "=5;}"),
                        property <= 15 ? 0 : IMPOSSIBLE);
                due("what is read of two", x.declared(0, property, 0), property <= 15 ? 5 : INVALID);
                x = new StyleCascade();
            }
            faultDue("{=1;}", 1);
            faultDue("{000=1;}", 3);
            faultDue("{-1=1;}", 1);
            faultDue("{a=1;}", 1);
        });
        holds("\"=\", and a number (1 to 3 digits)", x -> {
            String[] texts = {"0", "9", "00", "10", "000", "007", "099", "999"};
            int[] numbers = {0, 9, 0, 10, 0, 7, 99, 999};
            for (int index = 0; index < texts.length; index++) {
                due("rule", read(x, "{3=" + texts[index] + ";}"), index);
                due("what is read of " + texts[index], x.declared(index, 3, 0), numbers[index]);
                due("no reference", x.declared(index, 3, 1), MISSING);
            }
            faultDue("{3=;}", 3);
            faultDue("{3=1000;}", 6);
            faultDue("{3=0000;}", 6);
            faultDue("{3=-1;}", 3);
            faultDue("{3==1;}", 3);
            faultDue("{3;}", 2);
            faultDue("{3=1/2;}", 4);
        });
        holds("or \"$\", a custom property (1 or 2 digits)", x -> {
            for (int custom = 0; custom <= 99; custom++) {
                boolean isCustom = custom >= 8 && custom <= 15;
                due("in one digit or two", read(x, "{3=$" + custom + ";}"), isCustom ? 0 : IMPOSSIBLE);
                due("what is read", x.declared(0, 3, 1), isCustom ? custom : INVALID);
                x = new StyleCascade();
                due("in two digits", read(x, "{3=$" + custom / 10 + custom % 10 + ";}"), isCustom ? 0 : IMPOSSIBLE);
                due("what is read of two", x.declared(0, 3, 1), isCustom ? custom : INVALID);
                due("no number", x.declared(0, 3, 0), isCustom ? MISSING : INVALID);
                x = new StyleCascade();
            }
            faultDue("{3=$;}", 4);
            faultDue("{3=$008;}", 6);
            faultDue("{3=$$8;}", 4);
            faultDue("{$8=1;}", 1);
            faultDue("{3=8$;}", 4);
        });
        holds("and perhaps \"/\" and a fallback (1 to 3 digits);", x -> {
            String[] texts = {"", "/0", "/9", "/00", "/10", "/000", "/007", "/999"};
            int[] fallbacks = {MISSING, 0, 9, 0, 10, 0, 7, 999};
            for (int index = 0; index < texts.length; index++) {
                due("rule", read(x, "{3=$8" + texts[index] + ";}"), index);
                due("what is read of " + texts[index], x.declared(index, 3, 2), fallbacks[index]);
            }
            faultDue("{3=$8/;}", 6);
            faultDue("{3=$8/0000;}", 9);
            faultDue("{3=$8/-1;}", 6);
            faultDue("{3=$8//1;}", 6);
            faultDue("{3=$8/1/1;}", 7);
            faultDue("{3=$8/$8;}", 6);
        });
        holds("each one is followed by \";\".", x -> {
            faultDue("{3=1}", 4);
            faultDue("{3=$8}", 5);
            faultDue("{3=$8/1}", 7);
            faultDue("{3=1;4=1}", 8);
            faultDue("{3=1 4=1;}", 4);
            faultDue("{3=1,4=1;}", 4);
            faultDue("{3=1;;}", 5);
            faultDue("{;}", 1);
            faultDue("{3=1;4=1;}", MISSING);
        });
    }

    // ---- the faults

    private static void faultOfForm() {
        holds("The fault of the text is the position, from 0, of the first character that cannot stand where it stands",
                x -> {
            for (int place = 0; place < WHOLE.length(); place++) {
                for (char sign : new char[] {' ', '~', 'K', '#'}) {
                    faultDue(WHOLE.substring(0, place) + sign + WHOLE.substring(place + 1), place);
                    faultDue(WHOLE.substring(0, place) + sign + WHOLE.substring(place), place);
                }
            }
            faultDue(WHOLE + "~", WHOLE.length());
            faultDue(LONGEST.substring(0, 79) + "~", 79);
            faultDue(LONGEST.substring(0, 79) + ";", 79);
        });
        holds("The fault of the text is the position, from 0, of the first character that cannot stand where it stands",
                x -> {
            for (int sign = 32; sign <= 126; sign++) {
                faultDue("" + (char) sign, "k.<@L!{".indexOf(sign) >= 0 ? 1 : 0);
                faultDue("{" + (char) sign, sign == '}' ? MISSING : "0123456789".indexOf(sign) >= 0 ? 2 : 1);
                faultDue("{1" + (char) sign, "0123456789=".indexOf(sign) >= 0 ? 3 : 2);
                faultDue("{1=" + (char) sign, "0123456789$".indexOf(sign) >= 0 ? 4 : 3);
                faultDue("{1=1" + (char) sign, "0123456789;".indexOf(sign) >= 0 ? 5 : 4);
                faultDue("{1=$9" + (char) sign, "0123456789/;".indexOf(sign) >= 0 ? 6 : 5);
                faultDue("{1=$9/9" + (char) sign, "0123456789;".indexOf(sign) >= 0 ? 8 : 7);
                faultDue("{1=1;}" + (char) sign, 6);
            }
        });
        holds("or its length, if it ends too early;", x -> {
            for (int length = 0; length < WHOLE.length(); length++) {
                faultDue(WHOLE.substring(0, length), length);
            }
            for (int length = 0; length < 80; length++) {
                faultDue(LONGEST.substring(0, length), length);
            }
            faultDue(LONGEST.substring(0, 79) + "0", 80);
            faultDue("{0=100;1=100;2=100;3=100;4=100;5=100;6=100;7=100;8=100;9=100;10=100;11=100;12=10", 80);
        });
    }

    private static void faultOfRange() {
        holds("otherwise the position of the first digit of the first number, from the left, that is out of its range",
                x -> {
            faultDue("k6{}", 1);
            faultDue("k5.16{}", 3);
            faultDue("k5.15<6{}", 6);
            faultDue("k5.15<5@0L4{}", 10);
            faultDue("k5.15<5@0L3!{16=1;}", 13);
            faultDue("{15=1;16=1;}", 6);
            faultDue("{1=$7;}", 4);
            faultDue("{1=$07;}", 4);
            faultDue("{1=$16;}", 4);
            faultDue("{1=$15;2=$8/0;3=$99/1;}", 17);
            faultDue("k9.99<9@99L9!{99=$99;}", 1);
            faultDue("k5.99<9@99L9!{99=$99;}", 3);
            faultDue("k5.15<9@99L9!{99=$99;}", 6);
            faultDue("k5.15<5@99L9!{99=$99;}", 8);
            faultDue("k5.15<5@00L9!{99=$99;}", 11);
            faultDue("k5.15<5@00L3!{99=$99;}", 14);
            faultDue("k5.15<5@00L3!{15=$99;}", 18);
        });
        holds("names an element that there is not", x -> {
            faultDue(x, "@0{}", MISSING);
            faultDue(x, "@1{}", 1);
            x.add(0, 0, 0);
            due("there is one then", x.fault(), MISSING);
            faultDue(x, "k1@02{}", 3);
            x.add(0, 0, 0);
            due("there is that one too", x.fault(), MISSING);
            x.remove();
            due("it is removed", x.fault(), 3);
            x.undo();
            due("it is back", x.fault(), MISSING);
            fillElements(x);
            faultDue(x, "@15{}", MISSING);
            faultDue(x, "@16{}", 1);
            faultDue(x, "@99{}", 1);
        });
        holds("or is a property that is declared a second time.", x -> {
            faultDue("{1=1;1=1;}", 5);
            faultDue("{1=1;2=1;1=1;}", 9);
            faultDue("{1=1;01=1;}", 5);
            faultDue("{01=1;1=1;}", 6);
            faultDue("{1=$8;1=1;}", 6);
            faultDue("{1=1;1=$8;}", 5);
            faultDue("{0=1;0=1;}", 5);
            faultDue("{15=1;15=1;}", 6);
            faultDue("{1=1;11=1;}", MISSING);
            faultDue("{8=$8;}", MISSING);
            faultDue("{8=$9;9=$8;}", MISSING);
            faultDue("{1=1;1=1;1=1;}", 5);
            faultDue("{16=1;16=1;}", 1);
            faultDue("{1=$7;1=1;}", 4);
            faultDue("{1=2;1=$7;16=1;}", 5);
            faultDue("k6{1=1;1=1;}", 1);
        });
        holds("(So the form is looked at first.)", x -> {
            faultDue("k6{", 3);
            faultDue("k6", 2);
            faultDue("k6{}}", 4);
            faultDue("k9.99<9@99L9!{99=$99;99=1}", 25);
            faultDue("{1=1;1=1;", 9);
            faultDue("{1=1;1=1;;}", 9);
            faultDue("@99{1=1;16=1;x}", 13);
            faultDue("{16=1;}x", 7);
        });
        sectionEnds();
    }

    // ---- the promises

    private static void type() {
        section("Promise 21: type");
        holds("Appends a character to the text.", x -> {
            for (char sign : "{7=8;}".toCharArray()) {
                x.type(sign);
            }
            due("no fault", x.fault(), MISSING);
            x.type(' ');
            due("it is appended", x.fault(), 6);
        });
        holds("`character`: 32 to 126", x -> range(32, 126, none -> { }, StyleCascade::type));
        holds("Returns the length of the text;", x -> {
            for (int length = 1; length <= 80; length++) {
                due("length", x.type(length % 2 == 0 ? 32 : 126), length);
            }
            x.clearText();
            due("after clearText", x.type('a'), 1);
        });
        holds("INVALID_ARGUMENT if character is out of range;", x -> {
            due("31", x.type(31), INVALID);
            due("127", x.type(127), INVALID);
            due("0", x.type(0), INVALID);
            due("a character by more than 16 bits", x.type('{' + (1 << 16)), INVALID);
            due("a character below zero", x.type('{' - (1 << 16)), INVALID);
            due("nothing is appended", x.count(6), 0);
            write(x, LONGEST);
            due("in a full text", x.type(31), INVALID);
            due("in a full text, too large", x.type(127), INVALID);
        });
        holds("LIMIT_REACHED if it has 80 characters.", x -> {
            write(x, LONGEST.substring(0, 79));
            due("the last one", x.type('}'), 80);
            due("one more", x.type('}'), LIMIT);
            due("once more", x.type(32), LIMIT);
            due("nothing is lost", x.fault(), MISSING);
            x.clearText();
            due("after clearText", x.type('}'), 1);
        });
        sectionEnds();
    }

    private static void clearText() {
        section("Promise 22: clearText");
        holds("Empties the text.", x -> {
            write(x, LONGEST);
            x.clearText();
            due("length", x.count(6), 0);
            due("fault", x.fault(), 0);
            due("nothing is left of it", write(x, "{"), 1);
            due("it ends behind the new one", x.fault(), 1);
        });
        holds("Returns the length it had.", x -> {
            due("of the empty text", x.clearText(), 0);
            x.type('a');
            due("of one", x.clearText(), 1);
            due("of the emptied text", x.clearText(), 0);
            write(x, LONGEST);
            due("of a full one", x.clearText(), 80);
        });
        sectionEnds();
    }

    private static void fault() {
        section("Promise 23: fault");
        holds("Returns the fault of the text;", x -> {
            due("of the empty one", x.fault(), 0);
            faultDue(x, "{1=1;1=1;}", 5);
            due("once more", x.fault(), 5);
            due("the text stays", x.count(6), 10);
            due("it is no change", x.count(5), 0);
            faultDue(x, LONGEST.substring(0, 79) + "~", 79);
        });
        holds("NOT_FOUND if it has none.", x -> {
            faultDue(x, "{}", MISSING);
            faultDue(x, WHOLE, MISSING);
            faultDue(x, LONGEST, MISSING);
            fillRules(x);
            due("though there is no room for the rule", x.fault(), MISSING);
        });
        sectionEnds();
    }

    private static void read() {
        section("Promise 24: read");
        holds("Adds the rule of the text, which stays.", x -> {
            due("rule", read(x, WHOLE), 0);
            int[] parts = {5, 15, 4, 3, 0, 1, 42, 4, 0};
            for (int what = 0; what < parts.length; what++) {
                due("part " + what, x.ruleOf(0, what), parts[what]);
            }
            int[][] declared = {{0, 1, MISSING, MISSING}, {7, 999, MISSING, MISSING}, {8, MISSING, 9, MISSING},
                {15, MISSING, 8, 0}, {1, MISSING, MISSING, MISSING}};
            for (int[] due : declared) {
                for (int what = 0; what < 3; what++) {
                    due("of " + due[0] + " " + what, x.declared(0, due[0], what), due[what + 1]);
                }
            }
            due("the text stays", x.count(6), WHOLE.length());
            due("and can be read again", x.read(), 1);
            due("the same", x.declared(1, 15, 1), 8);
            x.type(' ');
            due("it is the same text", x.fault(), WHOLE.length());
        });
        holds("Adds the rule of the text, which stays.", x -> {
            read(x, WHOLE);
            due("without parts", read(x, "{}"), 1);
            int[] blank = {-1, 0, -1, 0, -1, 0, 0, 0, 1};
            for (int what = 0; what < blank.length; what++) {
                due("part " + what, x.ruleOf(1, what), blank[what]);
            }
            for (int property = 0; property < 16; property++) {
                for (int what = 0; what < 3; what++) {
                    due("nothing of the text before", x.declared(1, property, what), MISSING);
                }
            }
            read(x, "{3=4;}");
            due("it is in force", x.value(0, 3), 4);
        });
        holds("Returns its number;", x -> {
            for (int number = 0; number < 16; number++) {
                due("number", number % 2 == 0 ? read(x, "{}") : anyRule(x), number);
            }
            x.drop(3);
            due("after a drop", x.read(), 15);
        });
        holds("NOT_POSSIBLE if the text has a fault;", x -> {
            due("the empty text", x.read(), IMPOSSIBLE);
            due("a fault of form", read(x, "{"), IMPOSSIBLE);
            due("a fault at the end", read(x, "{}}"), IMPOSSIBLE);
            due("a fault of range", read(x, "k6{}"), IMPOSSIBLE);
            due("an element that there is not", read(x, "@1{}"), IMPOSSIBLE);
            due("a property declared twice", read(x, "{1=1;1=1;}"), IMPOSSIBLE);
            due("rules", x.count(1), 0);
            due("states", x.count(5), 0);
            x.add(0, 0, 0);
            write(x, "@1{}");
            x.remove();
            due("an element that there is no more", x.read(), IMPOSSIBLE);
            fillRules(x);
            due("though there are 16 rules", x.read(), IMPOSSIBLE);
        });
        holds("LIMIT_REACHED if there are 16 rules.", x -> {
            write(x, "{5=6;}");
            for (int number = 0; number < 16; number++) {
                due("number", x.read(), number);
            }
            due("a seventeenth", x.read(), LIMIT);
            due("rules", x.count(1), 16);
            due("the sixteenth stands", x.declared(15, 5, 0), 6);
            x.undo();
            due("after an undo", x.read(), 15);
        });
        sectionEnds();
    }
}
