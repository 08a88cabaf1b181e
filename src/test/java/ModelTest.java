import java.util.ArrayDeque;
import java.util.ArrayList;
import java.util.Deque;
import java.util.HashSet;
import java.util.List;
import java.util.Map;
import java.util.Set;
import java.util.TreeMap;
import java.util.regex.Matcher;
import java.util.regex.Pattern;

/**
 * Long runs of calls against a second program of the same document, written without regard to cost:
 * values by recursion, texts by regular expressions, states by whole copies.
 */
public final class ModelTest {
    private static final int RUNS = 2000;
    private static final int CALLS = 512;
    private static final int INVALID = -11;
    private static final int IMPOSSIBLE = -12;
    private static final int LIMIT = -13;
    private static final int MISSING = -14;

    public static void main(String[] args) {
        int wrong = 0;
        for (int run = 0; run < RUNS && wrong < 10; run++) {
            wrong += new Run(run).differs() ? 1 : 0;
        }
        System.out.println(wrong == 0 ? "both programs answer alike" : wrong + " runs differ");
        if (wrong != 0) {
            System.exit(1);
        }
    }

    private static final class Run {
        private final int number;
        private final Dice dice;
        private final StyleCascade x = new StyleCascade();
        private final Model model = new Model();
        private final StringBuilder calls = new StringBuilder();

        Run(int number) {
            this.number = number;
            this.dice = new Dice(number);
        }

        boolean differs() {
            int left = CALLS;
            while (left > 0) {
                String text = dice.below(100) < 3 ? text() : "";
                if (!text.isEmpty() && dice.below(9) > 0 && differs(19, new int[6])) {
                    return true;
                }
                for (int i = 0; i < text.length() && left > 0; i++, left--) {
                    if (differs(20, new int[] {text.charAt(i), 0, 0, 0, 0, 0})) {
                        return true;
                    }
                }
                int call = text.isEmpty() ? nextCall(left) : dice.between(21, 22);
                left -= 2;
                if (differs(call, arguments(call))) {
                    return true;
                }
            }
            return false;
        }

        /** At first mostly what builds, in the end mostly what asks for values. */
        private int nextCall(int left) {
            int[] building = {0, 0, 6, 6, 8, 9, 9, 9};
            int[] asking = {14, 15, 16, 16, 16, 17, 18, 18};
            if (left > CALLS * 3 / 4 && dice.below(5) > 0) {
                return building[dice.below(building.length)];
            }
            if (left < CALLS / 2 && dice.below(5) > 0) {
                return asking[dice.below(asking.length)];
            }
            return dice.below(23);
        }

        private boolean differs(int call, int[] a) {
            int got = call(x, call, a);
            int want = call(model, call, a);
            calls.append(call).append(java.util.Arrays.toString(a)).append(" = ").append(got).append('\n');
            if (got != want) {
                System.out.println("run " + number + ":\n" + calls + "due is " + want);
            }
            return got != want;
        }

        private int[] arguments(int call) {
            int element = dice.around(0, Math.max(0, model.elements.size() - 1));
            int rule = dice.around(0, Math.max(0, model.rules.size() - 1));
            // Few properties, so that rules meet in them.
            int custom = custom();
            int plain = dice.below(3) > 0 ? dice.between(0, 1) : dice.around(0, 15);
            int property = dice.below(3) > 0 ? custom() : plain;
            int kind = dice.around(0, dice.below(2) == 0 ? 1 : 5);
            int classes = dice.around(0, dice.below(2) == 0 ? 3 : 15);
            int fewClasses = dice.below(2) == 0 ? 0 : 1 << dice.below(4);
            switch (call) {
                case 0: case 2:
                    return new int[] {element, kind, classes, 0, 0, 0};
                case 3:
                    return new int[] {element, dice.around(0, 5), 0, 0, 0, 0};
                case 4:
                    return new int[] {dice.around(0, 6), 0, 0, 0, 0, 0};
                case 6:
                    return new int[] {dice.below(3) > 0 ? -1 : kind, dice.below(4) > 0 ? fewClasses : classes,
                        dice.below(3) > 0 ? -1 : dice.around(-1, 2), dice.around(0, dice.below(2) * 3),
                        dice.below(3) > 0 ? dice.between(-1, 0) : element, dice.around(0, 1)};
                case 7: case 10:
                    return new int[] {rule, property, 0, 0, 0, 0};
                case 8:
                    return new int[] {rule, property, dice.around(0, dice.below(2) == 0 ? 2 : 999), 0, 0, 0};
                case 9:
                    return new int[] {rule, property, custom, dice.below(2) == 0 ? -1 : dice.around(0, 999), 0, 0};
                case 11:
                    return new int[] {rule, dice.around(0, 8), 0, 0, 0, 0};
                case 12:
                    return new int[] {rule, property, dice.around(0, 2), 0, 0, 0};
                case 13:
                    return new int[] {rule, element, 0, 0, 0, 0};
                case 16:
                    return new int[] {element, property, dice.around(0, 3), dice.around(0, 1), 0, 0};
                case 18:
                    return new int[] {element, custom, 0, 0, 0, 0};
                default:
                    return new int[] {element, property, 0, 0, 0, 0};
            }
        }

        private int custom() {
            return dice.below(3) > 0 ? dice.between(8, 10) : dice.around(8, 15);
        }

        private String text() {
            StringBuilder text = new StringBuilder();
            optional(text, "k", dice.below(6));
            optional(text, ".", dice.below(15));
            optional(text, "<", dice.below(4));
            optional(text, "@", dice.below(Math.max(1, model.elements.size())));
            optional(text, "L", dice.below(4));
            text.append(dice.below(2) == 0 ? "!" : "").append('{');
            for (int left = dice.below(4); left > 0; left--) {
                text.append(dice.below(16)).append('=');
                if (dice.below(2) == 0) {
                    text.append(dice.below(1000));
                } else {
                    text.append('$').append(dice.between(8, 15));
                    optional(text, "/", dice.below(1000));
                }
                text.append(';');
            }
            text.append('}');
            if (dice.below(3) == 0) {
                spoil(text);
            }
            return text.toString();
        }

        private void optional(StringBuilder text, String sign, int number) {
            if (dice.below(3) == 0) {
                text.append(sign).append(number);
            }
        }

        private void spoil(StringBuilder text) {
            String signs = "k.<@L!{}=$/;0123456789 ~";
            int place = dice.below(text.length());
            char sign = signs.charAt(dice.below(signs.length()));
            switch (dice.below(4)) {
                case 0:
                    text.setCharAt(place, sign);
                    break;
                case 1:
                    text.insert(place, sign);
                    break;
                case 2:
                    text.deleteCharAt(place);
                    break;
                default:
                    text.setLength(place);
            }
        }
    }

    private static int call(StyleCascade x, int call, int[] a) {
        switch (call) {
            case 0: return x.add(a[0], a[1], a[2]);
            case 1: return x.remove();
            case 2: return x.dress(a[0], a[1], a[2]);
            case 3: return x.element(a[0], a[1]);
            case 4: return x.count(a[0]);
            case 5: return x.undo();
            case 6: return x.rule(a[0], a[1], a[2], a[3], a[4], a[5]);
            case 7: return x.drop(a[0]);
            case 8: return x.declare(a[0], a[1], a[2]);
            case 9: return x.refer(a[0], a[1], a[2], a[3]);
            case 10: return x.undeclare(a[0], a[1]);
            case 11: return x.ruleOf(a[0], a[1]);
            case 12: return x.declared(a[0], a[1], a[2]);
            case 13: return x.matches(a[0], a[1]);
            case 14: return x.value(a[0], a[1]);
            case 15: return x.winner(a[0], a[1]);
            case 16: return x.why(a[0], a[1], a[2], a[3]);
            case 17: return x.from(a[0], a[1]);
            case 18: return x.cycle(a[0], a[1]);
            case 19: return x.clearText();
            case 20: return x.type(a[0]);
            case 21: return x.fault();
            default: return x.read();
        }
    }

    private static int call(Model x, int call, int[] a) {
        switch (call) {
            case 0: return x.add(a[0], a[1], a[2]);
            case 1: return x.remove();
            case 2: return x.dress(a[0], a[1], a[2]);
            case 3: return x.element(a[0], a[1]);
            case 4: return x.count(a[0]);
            case 5: return x.undo();
            case 6: return x.rule(a);
            case 7: return x.drop(a[0]);
            case 8: return x.declare(a[0], a[1], a[2]);
            case 9: return x.refer(a[0], a[1], a[2], a[3]);
            case 10: return x.undeclare(a[0], a[1]);
            case 11: return x.ruleOf(a[0], a[1]);
            case 12: return x.declared(a[0], a[1], a[2]);
            case 13: return x.matches(a[0], a[1]);
            case 14: return x.value(a[0], a[1]);
            case 15: return x.winner(a[0], a[1]);
            case 16: return x.why(a[0], a[1], a[2], a[3]);
            case 17: return x.from(a[0], a[1]);
            case 18: return x.cycle(a[0], a[1]);
            case 19: return x.clearText();
            case 20: return x.type(a[0]);
            case 21: return x.fault();
            default: return x.read();
        }
    }

    /** A declaration by a number, or by a custom property with a fallback or null. */
    private record Declaration(Integer number, Integer custom, Integer fallback) { }

    private record Element(int parent, int kind, int classes) { }

    private record Rule(int kind, int classes, int ancestor, int layer, int scope, boolean important,
            Map<Integer, Declaration> declarations) {
        int specificity() {
            int specificity = (kind == -1 ? 0 : 1) + (ancestor == -1 ? 0 : 1);
            for (int bit = 1; bit <= 8; bit *= 2) {
                specificity += (classes & bit) == 0 ? 0 : 10;
            }
            return specificity;
        }

        Rule copy() {
            return new Rule(kind, classes, ancestor, layer, scope, important, new TreeMap<>(declarations));
        }
    }

    private record Snapshot(List<Element> elements, List<Rule> rules) { }

    private static final class Model {
        private List<Element> elements = new ArrayList<>(List.of(new Element(-1, 0, 0)));
        private List<Rule> rules = new ArrayList<>();
        private final Deque<Snapshot> history = new ArrayDeque<>();
        private String text = "";

        private static boolean in(int number, int least, int most) {
            return number >= least && number <= most;
        }

        private boolean isElement(int element) {
            return in(element, 0, elements.size() - 1);
        }

        private boolean isRule(int rule) {
            return in(rule, 0, rules.size() - 1);
        }

        private static List<Rule> copies(List<Rule> rules) {
            List<Rule> copies = new ArrayList<>();
            for (Rule rule : rules) {
                copies.add(rule.copy());
            }
            return copies;
        }

        private void record() {
            history.addLast(new Snapshot(new ArrayList<>(elements), copies(rules)));
            if (history.size() == 6) {
                history.removeFirst();
            }
        }

        int add(int parent, int kind, int classes) {
            if (!isElement(parent) || !in(kind, 0, 5) || !in(classes, 0, 15)) {
                return INVALID;
            }
            if (elements.size() == 16) {
                return LIMIT;
            }
            record();
            elements.add(new Element(parent, kind, classes));
            return elements.size() - 1;
        }

        int remove() {
            int last = elements.size() - 1;
            if (last == 0 || rules.stream().anyMatch(rule -> rule.scope == last)) {
                return IMPOSSIBLE;
            }
            record();
            elements.remove(last);
            return last;
        }

        int dress(int element, int kind, int classes) {
            if (!isElement(element) || !in(kind, 0, 5) || !in(classes, 0, 15)) {
                return INVALID;
            }
            record();
            Element old = elements.set(element, new Element(elements.get(element).parent, kind, classes));
            return 16 * old.kind + old.classes;
        }

        private List<Integer> upFrom(int element) {
            List<Integer> way = new ArrayList<>();
            for (int at = element; at != -1; at = elements.get(at).parent) {
                way.add(at);
            }
            return way;
        }

        int element(int element, int what) {
            if (!isElement(element)) {
                return INVALID;
            }
            int matching = 0;
            for (Rule rule : rules) {
                matching += fits(rule, element) ? 1 : 0;
            }
            int cyclic = 0;
            for (int custom = 8; custom < 16; custom++) {
                cyclic += cycle(element, custom) > 0 ? 1 : 0;
            }
            Element it = elements.get(element);
            int[] answers = {element == 0 ? MISSING : it.parent, it.kind, it.classes,
                upFrom(element).size() - 1, matching, cyclic};
            return in(what, 0, 5) ? answers[what] : INVALID;
        }

        int count(int what) {
            int declarations = 0;
            int references = 0;
            for (Rule rule : rules) {
                for (Declaration declaration : rule.declarations.values()) {
                    declarations++;
                    references += declaration.custom == null ? 0 : 1;
                }
            }
            int cyclic = 0;
            for (int element = 0; element < elements.size(); element++) {
                cyclic += element(element, 5);
            }
            int[] answers = {elements.size(), rules.size(), declarations, references, cyclic,
                history.size(), text.length()};
            return in(what, 0, 6) ? answers[what] : INVALID;
        }

        int undo() {
            if (history.isEmpty()) {
                return IMPOSSIBLE;
            }
            Snapshot snapshot = history.removeLast();
            elements = snapshot.elements;
            rules = snapshot.rules;
            return history.size();
        }

        int rule(int[] a) {
            if (!in(a[0], -1, 5) || !in(a[1], 0, 15) || !in(a[2], -1, 5) || !in(a[3], 0, 3)
                    || a[4] != -1 && !isElement(a[4]) || !in(a[5], 0, 1)) {
                return INVALID;
            }
            if (rules.size() == 16) {
                return LIMIT;
            }
            record();
            rules.add(new Rule(a[0], a[1], a[2], a[3], a[4], a[5] == 1, new TreeMap<>()));
            return rules.size() - 1;
        }

        int drop(int rule) {
            if (!isRule(rule)) {
                return INVALID;
            }
            record();
            rules.remove(rule);
            return rules.size();
        }

        int declare(int rule, int property, int number) {
            if (!isRule(rule) || !in(property, 0, 15) || !in(number, 0, 999)) {
                return INVALID;
            }
            record();
            rules.get(rule).declarations.put(property, new Declaration(number, null, null));
            return rules.get(rule).declarations.size();
        }

        int refer(int rule, int property, int custom, int fallback) {
            if (!isRule(rule) || !in(property, 0, 15) || !in(custom, 8, 15) || !in(fallback, -1, 999)) {
                return INVALID;
            }
            record();
            rules.get(rule).declarations.put(property,
                    new Declaration(null, custom, fallback == -1 ? null : fallback));
            return rules.get(rule).declarations.size();
        }

        int undeclare(int rule, int property) {
            if (!isRule(rule) || !in(property, 0, 15)) {
                return INVALID;
            }
            if (!rules.get(rule).declarations.containsKey(property)) {
                return IMPOSSIBLE;
            }
            record();
            rules.get(rule).declarations.remove(property);
            return rules.get(rule).declarations.size();
        }

        int ruleOf(int rule, int what) {
            if (!isRule(rule) || !in(what, 0, 8)) {
                return INVALID;
            }
            Rule it = rules.get(rule);
            int matched = 0;
            for (int element = 0; element < elements.size(); element++) {
                matched += matches(rule, element);
            }
            return new int[] {it.kind, it.classes, it.ancestor, it.layer, it.scope, it.important ? 1 : 0,
                it.specificity(), it.declarations.size(), matched}[what];
        }

        int declared(int rule, int property, int what) {
            if (!isRule(rule) || !in(property, 0, 15) || !in(what, 0, 2)) {
                return INVALID;
            }
            Declaration it = rules.get(rule).declarations.get(property);
            if (it == null) {
                return MISSING;
            }
            Integer answer = what == 0 ? it.number : what == 1 ? it.custom : it.fallback;
            return answer == null ? MISSING : answer;
        }

        private boolean fits(Rule rule, int element) {
            Element it = elements.get(element);
            List<Integer> way = upFrom(element);
            boolean ancestor = rule.ancestor == -1;
            for (int above : way.subList(1, way.size())) {
                ancestor |= elements.get(above).kind == rule.ancestor;
            }
            return (rule.kind == -1 || rule.kind == it.kind) && (rule.classes & ~it.classes) == 0
                    && ancestor && (rule.scope == -1 || way.contains(rule.scope));
        }

        int matches(int rule, int element) {
            if (!isRule(rule) || !isElement(element)) {
                return INVALID;
            }
            return fits(rules.get(rule), element) ? 1 : 0;
        }

        /** The criterion by which one rule wins over another one; 0 if it does not. */
        private int winsBy(int one, int other, int element) {
            Rule a = rules.get(one);
            Rule b = rules.get(other);
            if (a.important != b.important) {
                return a.important ? 1 : 0;
            }
            if (a.layer != b.layer) {
                return a.important == a.layer < b.layer ? 2 : 0;
            }
            if (a.scope != b.scope) {
                List<Integer> way = upFrom(element);
                boolean nearer = b.scope == -1
                        || a.scope != -1 && way.indexOf(a.scope) < way.indexOf(b.scope);
                return nearer ? 3 : 0;
            }
            if (a.specificity() != b.specificity()) {
                return a.specificity() > b.specificity() ? 4 : 0;
            }
            return one > other ? 5 : 0;
        }

        private List<Integer> inOrder(int element, int property) {
            List<Integer> order = new ArrayList<>();
            for (int rule = 0; rule < rules.size(); rule++) {
                if (rules.get(rule).declarations.containsKey(property) && fits(rules.get(rule), element)) {
                    int place = 0;
                    while (place < order.size() && winsBy(order.get(place), rule, element) > 0) {
                        place++;
                    }
                    order.add(place, rule);
                }
            }
            return order;
        }

        private Declaration winning(int element, int property) {
            List<Integer> order = inOrder(element, property);
            return order.isEmpty() ? null : rules.get(order.get(0)).declarations.get(property);
        }

        private Integer gives(int element, int property) {
            if (property >= 8 && cycle(element, property) > 0) {
                return null;
            }
            Declaration winning = winning(element, property);
            if (winning == null) {
                return null;
            }
            if (winning.number != null) {
                return winning.number;
            }
            Integer referred = valueOrNull(element, winning.custom);
            return referred != null ? referred : winning.fallback;
        }

        /** The element and the value from it, or null. */
        private int[] sourceAndValue(int element, int property) {
            Integer given = gives(element, property);
            if (given != null) {
                return new int[] {element, given};
            }
            boolean stays = property >= 8 ? cycle(element, property) > 0 : property % 2 == 1;
            return stays || element == 0 ? null : sourceAndValue(elements.get(element).parent, property);
        }

        private Integer valueOrNull(int element, int property) {
            int[] found = sourceAndValue(element, property);
            return found == null ? null : found[1];
        }

        int value(int element, int property) {
            if (!isElement(element) || !in(property, 0, 15)) {
                return INVALID;
            }
            Integer value = valueOrNull(element, property);
            return value != null ? value : property < 8 ? 0 : MISSING;
        }

        int winner(int element, int property) {
            return why(element, property, 0, 0);
        }

        int why(int element, int property, int place, int what) {
            if (!isElement(element) || !in(property, 0, 15) || place < 0 || !in(what, 0, 1)) {
                return INVALID;
            }
            List<Integer> order = inOrder(element, property);
            if (place >= order.size()) {
                return MISSING;
            }
            int criterion = place == 0 ? 0 : winsBy(order.get(place - 1), order.get(place), element);
            return what == 0 ? order.get(place) : criterion;
        }

        int from(int element, int property) {
            if (!isElement(element) || !in(property, 0, 15)) {
                return INVALID;
            }
            int[] found = sourceAndValue(element, property);
            return found == null ? MISSING : found[0];
        }

        int cycle(int element, int custom) {
            if (!isElement(element) || !in(custom, 8, 15)) {
                return INVALID;
            }
            Set<Integer> seen = new HashSet<>();
            Integer at = custom;
            while (at != null && seen.add(at)) {
                Declaration winning = winning(element, at);
                at = winning == null ? null : winning.custom;
            }
            return at != null && at == custom ? seen.size() : 0;
        }

        int type(int character) {
            if (!in(character, 32, 126)) {
                return INVALID;
            }
            if (text.length() == 80) {
                return LIMIT;
            }
            text += (char) character;
            return text.length();
        }

        int clearText() {
            int length = text.length();
            text = "";
            return length;
        }

        private static final String DECLARATION = "(?:\\d{1,2}=(?:\\d{1,3}|\\$\\d{1,2}(?:/\\d{1,3})?);)";
        private static final Pattern FORM = Pattern.compile("(?:k(\\d))?(?:\\.(\\d{1,2}))?(?:<(\\d))?"
                + "(?:@(\\d{1,2}))?(?:L(\\d))?(!)?\\{(" + DECLARATION + "*)\\}");
        private static final Pattern PART = Pattern.compile(
                "(\\d{1,2})=(?:(\\d{1,3})|\\$(\\d{1,2})(?:/(\\d{1,3}))?);");

        int fault() {
            for (int length = 1; length <= text.length(); length++) {
                Matcher start = FORM.matcher(text.substring(0, length));
                if (!start.matches() && !start.hitEnd()) {
                    return length - 1;
                }
            }
            Matcher form = FORM.matcher(text);
            if (!form.matches()) {
                return text.length();
            }
            int[] tops = {0, 5, 15, 5, elements.size() - 1, 3};
            for (int group = 1; group <= 5; group++) {
                if (number(form, group, 0) > tops[group]) {
                    return form.start(group);
                }
            }
            Set<Integer> seen = new HashSet<>();
            Matcher part = PART.matcher(text);
            while (part.find()) {
                if (number(part, 1, 0) > 15 || !seen.add(number(part, 1, 0))) {
                    return part.start(1);
                }
                if (!in(number(part, 3, 8), 8, 15)) {
                    return part.start(3);
                }
            }
            return MISSING;
        }

        private static int number(Matcher matcher, int group, int otherwise) {
            return matcher.group(group) == null ? otherwise : Integer.parseInt(matcher.group(group));
        }

        int read() {
            if (fault() != MISSING) {
                return IMPOSSIBLE;
            }
            if (rules.size() == 16) {
                return LIMIT;
            }
            record();
            Matcher form = FORM.matcher(text);
            Map<Integer, Declaration> declarations = new TreeMap<>();
            Matcher part = PART.matcher(text);
            while (part.find()) {
                int fallback = number(part, 4, -1);
                declarations.put(number(part, 1, 0), part.group(3) == null
                        ? new Declaration(number(part, 2, 0), null, null)
                        : new Declaration(null, number(part, 3, 0), fallback == -1 ? null : fallback));
            }
            if (form.matches()) {
                rules.add(new Rule(number(form, 1, -1), number(form, 2, 0), number(form, 3, -1),
                        number(form, 5, 0), number(form, 4, -1), form.group(6) != null, declarations));
            }
            return rules.size() - 1;
        }
    }
}
