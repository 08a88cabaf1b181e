/**
 * A cascade of styles: a tree of elements, rules that match them, the winner of each property with
 * the criterion by which it won, values with references, cycles and inheritance, and rules as texts.
 *
 * <p>Every array lies behind {@link Row}, which looks at each index before it uses it. All rows are
 * made with the object, so that a call makes none.
 */
public final class StyleCascade {
    public static final int INVALID_ARGUMENT = -11;
    public static final int NOT_POSSIBLE = -12;
    public static final int LIMIT_REACHED = -13;
    public static final int NOT_FOUND = -14;

    private static final int NONE = -1;
    private static final int ROOT = 0;
    private static final int MOST_ELEMENTS = 16;
    private static final int MOST_RULES = 16;
    private static final int MOST_STATES = 5;
    private static final int MOST_CHARACTERS = 80;
    private static final int PROPERTIES = 16;
    private static final int FIRST_CUSTOM = 8;
    private static final int TOP_KIND = 5;
    private static final int TOP_CLASSES = 15;
    private static final int TOP_LAYER = 3;
    private static final int TOP_NUMBER = 999;
    private static final int FIRST_CHARACTER = 32;
    private static final int LAST_CHARACTER = 126;

    // The parts of a rule bear the numbers by which ruleOf asks for them.
    private static final int KIND = 0;
    private static final int CLASSES = 1;
    private static final int ANCESTOR = 2;
    private static final int LAYER = 3;
    private static final int SCOPE = 4;
    private static final int IMPORTANT = 5;
    private static final int PARTS = 6;

    // The entries of a declaration bear the numbers by which declared asks for them.
    private static final int NUMBER = 0;
    private static final int CUSTOM = 1;
    private static final int FALLBACK = 2;
    private static final int ENTRIES = 3;

    // The criteria bear the numbers by which why tells them.
    private static final int BY_IMPORTANCE = 1;
    private static final int BY_LAYER = 2;
    private static final int BY_SCOPE = 3;
    private static final int BY_SPECIFICITY = 4;
    private static final int BY_ORDER = 5;

    private final State now;
    private final History history;
    private final Outcome outcome;
    private final Text text;

    public StyleCascade() {
        now = new State();
        history = new History();
        outcome = new Outcome();
        text = new Text();
    }

    // ---- elements

    public int add(int parent, int kind, int classes) {
        if (!now.tree.has(parent) || !isWithin(kind, 0, TOP_KIND) || !isWithin(classes, 0, TOP_CLASSES)) {
            return INVALID_ARGUMENT;
        }
        if (now.tree.size() >= MOST_ELEMENTS) {
            return LIMIT_REACHED;
        }
        beginChange();
        return now.tree.append(parent, kind, classes);
    }

    public int remove() {
        int last = now.tree.size() - 1;
        if (last <= ROOT || now.rules.haveScope(last)) {
            return NOT_POSSIBLE;
        }
        beginChange();
        return now.tree.shorten();
    }

    public int dress(int element, int kind, int classes) {
        if (!now.tree.has(element) || !isWithin(kind, 0, TOP_KIND) || !isWithin(classes, 0, TOP_CLASSES)) {
            return INVALID_ARGUMENT;
        }
        int previous = 16 * now.tree.kindOf(element) + now.tree.classesOf(element);
        beginChange();
        now.tree.setLook(element, kind, classes);
        return previous;
    }

    public int element(int element, int what) {
        if (!now.tree.has(element)) {
            return INVALID_ARGUMENT;
        }
        switch (what) {
            case 0:
                return element == ROOT ? NOT_FOUND : now.tree.parentOf(element);
            case 1:
                return now.tree.kindOf(element);
            case 2:
                return now.tree.classesOf(element);
            case 3:
                return now.tree.stepsUp(element, ROOT);
            case 4:
                return outcome.of(now).rulesOn(element);
            case 5:
                return outcome.of(now).cyclicOn(element);
            default:
                return INVALID_ARGUMENT;
        }
    }

    public int count(int what) {
        switch (what) {
            case 0:
                return now.tree.size();
            case 1:
                return now.rules.size();
            case 2:
                return now.rules.allDeclarations();
            case 3:
                return now.rules.allReferences();
            case 4:
                return outcome.of(now).allCyclic();
            case 5:
                return history.size();
            case 6:
                return text.length();
            default:
                return INVALID_ARGUMENT;
        }
    }

    public int undo() {
        if (history.size() <= 0) {
            return NOT_POSSIBLE;
        }
        history.restore(now);
        outcome.spoil();
        return history.size();
    }

    // ---- rules

    public int rule(int kind, int classes, int ancestor, int layer, int scope, int important) {
        boolean looks = isWithin(kind, NONE, TOP_KIND) && isWithin(classes, 0, TOP_CLASSES)
                && isWithin(ancestor, NONE, TOP_KIND);
        boolean stands = isWithin(layer, 0, TOP_LAYER) && isWithin(important, 0, 1)
                && (scope == NONE || now.tree.has(scope));
        if (!looks || !stands) {
            return INVALID_ARGUMENT;
        }
        if (now.rules.size() >= MOST_RULES) {
            return LIMIT_REACHED;
        }
        beginChange();
        return now.rules.append(kind, classes, ancestor, layer, scope, important);
    }

    public int drop(int rule) {
        if (!now.rules.has(rule)) {
            return INVALID_ARGUMENT;
        }
        beginChange();
        return now.rules.takeOut(rule);
    }

    public int declare(int rule, int property, int number) {
        if (!now.rules.has(rule) || !isProperty(property) || !isWithin(number, 0, TOP_NUMBER)) {
            return INVALID_ARGUMENT;
        }
        beginChange();
        now.rules.setDeclaration(rule, property, number, NONE, NONE);
        return now.rules.declarationsOf(rule);
    }

    public int refer(int rule, int property, int custom, int fallback) {
        if (!now.rules.has(rule) || !isProperty(property) || !isCustom(custom)
                || !isWithin(fallback, NONE, TOP_NUMBER)) {
            return INVALID_ARGUMENT;
        }
        beginChange();
        now.rules.setDeclaration(rule, property, NONE, custom, fallback);
        return now.rules.declarationsOf(rule);
    }

    public int undeclare(int rule, int property) {
        if (!now.rules.has(rule) || !isProperty(property)) {
            return INVALID_ARGUMENT;
        }
        if (!now.rules.declares(rule, property)) {
            return NOT_POSSIBLE;
        }
        beginChange();
        now.rules.setDeclaration(rule, property, NONE, NONE, NONE);
        return now.rules.declarationsOf(rule);
    }

    public int ruleOf(int rule, int what) {
        if (!now.rules.has(rule)) {
            return INVALID_ARGUMENT;
        }
        switch (what) {
            case KIND:
            case CLASSES:
            case ANCESTOR:
            case LAYER:
            case SCOPE:
            case IMPORTANT:
                return now.rules.part(rule, what);
            case 6:
                return now.rules.specificity(rule);
            case 7:
                return now.rules.declarationsOf(rule);
            case 8:
                return outcome.of(now).elementsOf(rule);
            default:
                return INVALID_ARGUMENT;
        }
    }

    public int declared(int rule, int property, int what) {
        if (!now.rules.has(rule) || !isProperty(property) || !isWithin(what, NUMBER, FALLBACK)) {
            return INVALID_ARGUMENT;
        }
        return foundOr(now.rules.entry(rule, property, what), NOT_FOUND);
    }

    public int matches(int rule, int element) {
        if (!now.rules.has(rule) || !now.tree.has(element)) {
            return INVALID_ARGUMENT;
        }
        return outcome.of(now).isMatch(rule, element) ? 1 : 0;
    }

    // ---- values

    public int value(int element, int property) {
        if (!now.tree.has(element) || !isProperty(property)) {
            return INVALID_ARGUMENT;
        }
        return foundOr(outcome.of(now).valueOn(element, property), isCustom(property) ? NOT_FOUND : 0);
    }

    public int winner(int element, int property) {
        if (!now.tree.has(element) || !isProperty(property)) {
            return INVALID_ARGUMENT;
        }
        return foundOr(outcome.of(now).winnerOn(element, property), NOT_FOUND);
    }

    public int why(int element, int property, int place, int what) {
        if (!now.tree.has(element) || !isProperty(property) || place < 0 || !isWithin(what, 0, 1)) {
            return INVALID_ARGUMENT;
        }
        int rule = outcome.of(now).ruleInPlace(now.rules, element, property, place);
        if (rule == NONE) {
            return NOT_FOUND;
        }
        if (what == 0) {
            return rule;
        }
        if (place == 0) {
            return 0;
        }
        int before = outcome.ruleInPlace(now.rules, element, property, place - 1);
        return now.criterion(before, rule, element);
    }

    public int from(int element, int property) {
        if (!now.tree.has(element) || !isProperty(property)) {
            return INVALID_ARGUMENT;
        }
        return foundOr(outcome.of(now).sourceOn(element, property), NOT_FOUND);
    }

    public int cycle(int element, int custom) {
        if (!now.tree.has(element) || !isCustom(custom)) {
            return INVALID_ARGUMENT;
        }
        return outcome.of(now).cycleOn(element, custom);
    }

    // ---- texts

    public int type(int character) {
        if (!isWithin(character, FIRST_CHARACTER, LAST_CHARACTER)) {
            return INVALID_ARGUMENT;
        }
        if (text.length() >= MOST_CHARACTERS) {
            return LIMIT_REACHED;
        }
        return text.append(character);
    }

    public int clearText() {
        return text.empty();
    }

    public int fault() {
        return foundOr(text.parse(now.tree.size()), NOT_FOUND);
    }

    public int read() {
        if (text.parse(now.tree.size()) != NONE) {
            return NOT_POSSIBLE;
        }
        if (now.rules.size() >= MOST_RULES) {
            return LIMIT_REACHED;
        }
        beginChange();
        return now.rules.appendFirstOf(text.draft());
    }

    // ---- what several calls share

    /** Every change goes through here, after its last test and before it alters anything. */
    private void beginChange() {
        history.record(now);
        outcome.spoil();
    }

    private static int foundOr(int number, int otherwise) {
        return number == NONE ? otherwise : number;
    }

    private static boolean isWithin(int number, int least, int most) {
        return number >= least && number <= most;
    }

    private static boolean isProperty(int property) {
        return isWithin(property, 0, PROPERTIES - 1);
    }

    private static boolean isCustom(int property) {
        return isWithin(property, FIRST_CUSTOM, PROPERTIES - 1);
    }

    /** Numbers by their indices. Outside of them there is NONE, and nothing is put there. */
    private static final class Row {
        private final int[] cells;

        Row(int length) {
            cells = new int[Math.max(length, 0)];
        }

        int at(int index) {
            return index >= 0 && index < cells.length ? cells[index] : NONE;
        }

        void put(int index, int number) {
            if (index >= 0 && index < cells.length) {
                cells[index] = number;
            }
        }

        void putAll(int first, int last, int number) {
            for (int index = first; index <= last && index < cells.length; index++) {
                put(index, number);
            }
        }

        void copy(Row other) {
            if (other != null) {
                System.arraycopy(other.cells, 0, cells, 0, Math.min(other.cells.length, cells.length));
            }
        }
    }

    /** The elements. The parent of each has a lower number; that of the root is NONE. */
    private static final class Tree {
        private int size;
        private final Row parents;
        private final Row kinds;
        private final Row classes;

        Tree() {
            parents = new Row(MOST_ELEMENTS);
            kinds = new Row(MOST_ELEMENTS);
            classes = new Row(MOST_ELEMENTS);
            parents.put(ROOT, NONE);
            size = 1;
        }

        int size() {
            return size;
        }

        boolean has(int element) {
            return isWithin(element, ROOT, size - 1);
        }

        int parentOf(int element) {
            return parents.at(element);
        }

        int kindOf(int element) {
            return kinds.at(element);
        }

        int classesOf(int element) {
            return classes.at(element);
        }

        int append(int parent, int kind, int mask) {
            int element = size;
            parents.put(element, parent);
            setLook(element, kind, mask);
            size++;
            return element;
        }

        int shorten() {
            size--;
            return size;
        }

        void setLook(int element, int kind, int mask) {
            kinds.put(element, kind);
            classes.put(element, mask);
        }

        /** The steps from the element up to the other one; NONE if this is not on the way to the root. */
        int stepsUp(int element, int above) {
            int place = element;
            for (int steps = 0; steps < MOST_ELEMENTS && place >= ROOT; steps++) {
                if (place == above) {
                    return steps;
                }
                place = parents.at(place);
            }
            return NONE;
        }

        boolean hasKindAbove(int element, int kind) {
            int place = parents.at(element);
            for (int steps = 0; steps < MOST_ELEMENTS && place >= ROOT; steps++) {
                if (kinds.at(place) == kind) {
                    return true;
                }
                place = parents.at(place);
            }
            return false;
        }

        void copy(Tree other) {
            if (other != null) {
                size = other.size;
                parents.copy(other.parents);
                kinds.copy(other.kinds);
                classes.copy(other.classes);
            }
        }
    }

    /** Rules in their order, each with its parts and with the entries of its declarations. */
    private static final class Rules {
        private static final int ENTRIES_OF_RULE = PROPERTIES * ENTRIES;

        private int size;
        private final Row parts;
        private final Row entries;

        Rules(int most) {
            parts = new Row(most * PARTS);
            entries = new Row(most * ENTRIES_OF_RULE);
        }

        int size() {
            return size;
        }

        boolean has(int rule) {
            return isWithin(rule, 0, size - 1);
        }

        int part(int rule, int what) {
            return parts.at(rule * PARTS + what);
        }

        int entry(int rule, int property, int what) {
            return entries.at(rule * ENTRIES_OF_RULE + property * ENTRIES + what);
        }

        boolean refers(int rule, int property) {
            return entry(rule, property, CUSTOM) != NONE;
        }

        boolean declares(int rule, int property) {
            return entry(rule, property, NUMBER) != NONE || entry(rule, property, CUSTOM) != NONE;
        }

        boolean haveScope(int element) {
            for (int rule = 0; rule < size; rule++) {
                if (part(rule, SCOPE) == element) {
                    return true;
                }
            }
            return false;
        }

        int specificity(int rule) {
            int first = rule * PARTS;
            return 10 * Integer.bitCount(parts.at(first + CLASSES))
                    + (parts.at(first + KIND) == NONE ? 0 : 1)
                    + (parts.at(first + ANCESTOR) == NONE ? 0 : 1);
        }

        int declarationsOf(int rule) {
            int declarations = 0;
            for (int property = 0; property < PROPERTIES; property++) {
                if (declares(rule, property)) {
                    declarations++;
                }
            }
            return declarations;
        }

        int allDeclarations() {
            int declarations = 0;
            for (int rule = 0; rule < size; rule++) {
                declarations += declarationsOf(rule);
            }
            return declarations;
        }

        int allReferences() {
            int references = 0;
            for (int rule = 0; rule < size; rule++) {
                for (int property = 0; property < PROPERTIES; property++) {
                    if (refers(rule, property)) {
                        references++;
                    }
                }
            }
            return references;
        }

        void clear() {
            size = 0;
        }

        int append(int kind, int classes, int ancestor, int layer, int scope, int important) {
            int rule = size;
            int first = rule * PARTS;
            parts.put(first + KIND, kind);
            parts.put(first + CLASSES, classes);
            parts.put(first + ANCESTOR, ancestor);
            parts.put(first + LAYER, layer);
            parts.put(first + SCOPE, scope);
            parts.put(first + IMPORTANT, important);
            entries.putAll(rule * ENTRIES_OF_RULE, (rule + 1) * ENTRIES_OF_RULE - 1, NONE);
            size++;
            return rule;
        }

        int appendFirstOf(Rules other) {
            int rule = size;
            if (other != null) {
                for (int index = 0; index < PARTS; index++) {
                    parts.put(rule * PARTS + index, other.parts.at(index));
                }
                for (int index = 0; index < ENTRIES_OF_RULE; index++) {
                    entries.put(rule * ENTRIES_OF_RULE + index, other.entries.at(index));
                }
                size++;
            }
            return rule;
        }

        int takeOut(int rule) {
            size--;
            for (int index = rule * PARTS; index < size * PARTS; index++) {
                parts.put(index, parts.at(index + PARTS));
            }
            for (int index = rule * ENTRIES_OF_RULE; index < size * ENTRIES_OF_RULE; index++) {
                entries.put(index, entries.at(index + ENTRIES_OF_RULE));
            }
            return size;
        }

        /** A number, or a custom property with its fallback, or NONE of them to undo the declaration. */
        void setDeclaration(int rule, int property, int number, int custom, int fallback) {
            int first = rule * ENTRIES_OF_RULE + property * ENTRIES;
            entries.put(first + NUMBER, number);
            entries.put(first + CUSTOM, custom);
            entries.put(first + FALLBACK, fallback);
        }

        void copy(Rules other) {
            if (other != null) {
                size = other.size;
                parts.copy(other.parts);
                entries.copy(other.entries);
            }
        }
    }

    /** What a change alters and undo restores. */
    private static final class State {
        // Above every rank that there is.
        private static final int RANKS = 64;

        private final Tree tree;
        private final Rules rules;

        State() {
            tree = new Tree();
            rules = new Rules(MOST_RULES);
        }

        boolean fits(int rule, int element) {
            int kind = rules.part(rule, KIND);
            int classes = rules.part(rule, CLASSES);
            int ancestor = rules.part(rule, ANCESTOR);
            int scope = rules.part(rule, SCOPE);
            return (kind == NONE || kind == tree.kindOf(element))
                    && (tree.classesOf(element) & classes) == classes
                    && (ancestor == NONE || tree.hasKindAbove(element, ancestor))
                    && (scope == NONE || tree.stepsUp(element, scope) != NONE);
        }

        /** How a matching rule stands by one criterion, from 0: of two rules the higher rank wins. */
        int rank(int rule, int element, int criterion) {
            boolean important = rules.part(rule, IMPORTANT) == 1;
            int layer = rules.part(rule, LAYER);
            int scope = rules.part(rule, SCOPE);
            switch (criterion) {
                case BY_IMPORTANCE:
                    return important ? 1 : 0;
                case BY_LAYER:
                    return important ? TOP_LAYER - layer : layer;
                case BY_SCOPE:
                    return scope == NONE ? 0 : MOST_ELEMENTS - tree.stepsUp(element, scope);
                case BY_SPECIFICITY:
                    return rules.specificity(rule);
                default:
                    return rule;
            }
        }

        /** All ranks of a rule as one number, of which the higher one wins; NONE if it does not match. */
        int strength(int rule, int element) {
            if (!fits(rule, element)) {
                return NONE;
            }
            int strength = 0;
            for (int criterion = BY_IMPORTANCE; criterion <= BY_ORDER; criterion++) {
                strength = strength * RANKS + rank(rule, element, criterion);
            }
            return strength;
        }

        /** The first criterion in which two matching rules differ. */
        int criterion(int rule, int other, int element) {
            for (int criterion = BY_IMPORTANCE; criterion < BY_ORDER; criterion++) {
                if (rank(rule, element, criterion) != rank(other, element, criterion)) {
                    return criterion;
                }
            }
            return BY_ORDER;
        }

        void copy(State other) {
            if (other != null) {
                tree.copy(other.tree);
                rules.copy(other.rules);
            }
        }
    }

    /** The latest states in a ring, whose rows are used again when the oldest one is dropped. */
    private static final class History {
        private final State[] ring;
        private int oldest;
        private int size;

        History() {
            ring = new State[MOST_STATES];
            for (int index = 0; index < ring.length; index++) {
                ring[index] = new State();
            }
        }

        int size() {
            return size;
        }

        void record(State state) {
            State slot = slot(size);
            if (slot == null || state == null) {
                return;
            }
            slot.copy(state);
            if (size < MOST_STATES) {
                size++;
            } else {
                oldest = (oldest + 1) % MOST_STATES;
            }
        }

        void restore(State state) {
            State slot = slot(size - 1);
            if (slot == null || state == null) {
                return;
            }
            state.copy(slot);
            size--;
        }

        private State slot(int place) {
            int index = (oldest + place) % MOST_STATES;
            return place >= 0 && index >= 0 && index < ring.length ? ring[index] : null;
        }
    }

    /** What follows from a state: kept until the next change, so that only the first question pays. */
    private static final class Outcome {
        // Above every strength that there is.
        private static final int NO_LIMIT = 1 << 30;

        private boolean isFresh;
        private int elements;
        private int rules;
        private final Row strengths;
        private final Row winners;
        private final Row cycles;
        private final Row values;
        private final Row sources;

        Outcome() {
            strengths = new Row(MOST_ELEMENTS * MOST_RULES);
            winners = new Row(MOST_ELEMENTS * PROPERTIES);
            cycles = new Row(MOST_ELEMENTS * PROPERTIES);
            values = new Row(MOST_ELEMENTS * PROPERTIES);
            sources = new Row(MOST_ELEMENTS * PROPERTIES);
        }

        void spoil() {
            isFresh = false;
        }

        /** The outcome of the state, which must be the one that spoil() was told about. */
        Outcome of(State state) {
            if (isFresh || state == null) {
                return this;
            }
            elements = state.tree.size();
            rules = state.rules.size();
            // A parent has a lower number, so its values stand when those of its children are looked for.
            for (int element = ROOT; element < elements; element++) {
                weighRules(state, element);
                chooseWinners(state.rules, element);
                findCycles(state.rules, element);
                giveValues(state, element);
            }
            isFresh = true;
            return this;
        }

        private void weighRules(State state, int element) {
            for (int rule = 0; rule < rules; rule++) {
                strengths.put(element * MOST_RULES + rule, state.strength(rule, element));
            }
        }

        private void chooseWinners(Rules sheet, int element) {
            for (int property = 0; property < PROPERTIES; property++) {
                winners.put(cell(element, property), strongest(sheet, element, property, NO_LIMIT));
            }
        }

        /** The matching rule that declares the property with the greatest strength below a limit. */
        private int strongest(Rules sheet, int element, int property, int limit) {
            int best = NONE;
            int most = NONE;
            for (int rule = 0; rule < rules; rule++) {
                int strength = sheet.declares(rule, property) ? strengthOn(element, rule) : NONE;
                if (strength > most && strength < limit) {
                    most = strength;
                    best = rule;
                }
            }
            return best;
        }

        private void findCycles(Rules sheet, int element) {
            for (int custom = FIRST_CUSTOM; custom < PROPERTIES; custom++) {
                cycles.put(cell(element, custom), cycleFrom(sheet, element, custom));
            }
        }

        private int cycleFrom(Rules sheet, int element, int custom) {
            int place = custom;
            for (int steps = 1; steps <= PROPERTIES - FIRST_CUSTOM && place != NONE; steps++) {
                int rule = winnerOn(element, place);
                place = rule == NONE ? NONE : sheet.entry(rule, place, CUSTOM);
                if (place == custom) {
                    return steps;
                }
            }
            return 0;
        }

        private void giveValues(State state, int element) {
            // A chain of references that is no cycle has at most as many custom properties as there
            // are, and each round settles one more from its end.
            for (int round = FIRST_CUSTOM; round < PROPERTIES; round++) {
                for (int custom = FIRST_CUSTOM; custom < PROPERTIES; custom++) {
                    giveValue(state, element, custom);
                }
            }
            for (int plain = 0; plain < FIRST_CUSTOM; plain++) {
                giveValue(state, element, plain);
            }
        }

        private void giveValue(State state, int element, int property) {
            boolean isCyclic = isCustom(property) && cycleOn(element, property) > 0;
            boolean isInherited = isCustom(property) || property % 2 == 0;
            int value = isCyclic ? NONE : given(state.rules, element, property);
            int source = value == NONE ? NONE : element;
            if (value == NONE && !isCyclic && isInherited && element != ROOT) {
                int parent = state.tree.parentOf(element);
                value = valueOn(parent, property);
                source = sourceOn(parent, property);
            }
            values.put(cell(element, property), value);
            sources.put(cell(element, property), source);
        }

        /** What the winner itself gives: its number, what it refers to, or its fallback. */
        private int given(Rules sheet, int element, int property) {
            int rule = winnerOn(element, property);
            if (rule == NONE) {
                return NONE;
            }
            int number = sheet.entry(rule, property, NUMBER);
            if (number != NONE) {
                return number;
            }
            int referred = valueOn(element, sheet.entry(rule, property, CUSTOM));
            return foundOr(referred, sheet.entry(rule, property, FALLBACK));
        }

        boolean isMatch(int rule, int element) {
            return strengthOn(element, rule) != NONE;
        }

        int rulesOn(int element) {
            int matching = 0;
            for (int rule = 0; rule < rules; rule++) {
                matching += isMatch(rule, element) ? 1 : 0;
            }
            return matching;
        }

        int elementsOf(int rule) {
            int matching = 0;
            for (int element = 0; element < elements; element++) {
                matching += isMatch(rule, element) ? 1 : 0;
            }
            return matching;
        }

        int cyclicOn(int element) {
            int cyclic = 0;
            for (int custom = FIRST_CUSTOM; custom < PROPERTIES; custom++) {
                cyclic += cycleOn(element, custom) > 0 ? 1 : 0;
            }
            return cyclic;
        }

        int allCyclic() {
            int cyclic = 0;
            for (int element = 0; element < elements; element++) {
                cyclic += cyclicOn(element);
            }
            return cyclic;
        }

        /** The rule that wins over all but so many others as the place tells, or NONE. */
        int ruleInPlace(Rules sheet, int element, int property, int place) {
            if (sheet == null || place < 0 || place >= rules) {
                return NONE;
            }
            int rule = winnerOn(element, property);
            for (int turn = 0; turn < place && rule != NONE; turn++) {
                rule = strongest(sheet, element, property, strengthOn(element, rule));
            }
            return rule;
        }

        int winnerOn(int element, int property) {
            return winners.at(cell(element, property));
        }

        int cycleOn(int element, int custom) {
            return cycles.at(cell(element, custom));
        }

        int valueOn(int element, int property) {
            return values.at(cell(element, property));
        }

        int sourceOn(int element, int property) {
            return sources.at(cell(element, property));
        }

        private int strengthOn(int element, int rule) {
            return strengths.at(element * MOST_RULES + rule);
        }

        private static int cell(int element, int property) {
            return element * PROPERTIES + property;
        }
    }

    /** The typed characters, and the rule that they tell. */
    private static final class Text {
        private final Row characters;
        private int length;
        private final Rules draft;
        private int place;
        private int formFault;
        private int rangeFault;

        Text() {
            characters = new Row(MOST_CHARACTERS);
            draft = new Rules(1);
        }

        int length() {
            return length;
        }

        Rules draft() {
            return draft;
        }

        int append(int character) {
            characters.put(length, character);
            length++;
            return length;
        }

        int empty() {
            int previous = length;
            length = 0;
            return previous;
        }

        /** Puts the rule into the draft; answers the fault of the text, or NONE. */
        int parse(int elements) {
            place = 0;
            formFault = NONE;
            rangeFault = NONE;
            draft.clear();
            parseHead(elements);
            parseBody();
            return foundOr(formFault, rangeFault);
        }

        private void parseHead(int elements) {
            int kind = partAfter('k', 1, TOP_KIND, NONE);
            int classes = partAfter('.', 2, TOP_CLASSES, 0);
            int ancestor = partAfter('<', 1, TOP_KIND, NONE);
            int scope = partAfter('@', 2, elements - 1, NONE);
            int layer = partAfter('L', 1, TOP_LAYER, 0);
            int important = accepts('!') ? 1 : 0;
            draft.append(kind, classes, ancestor, layer, scope, important);
        }

        private int partAfter(char sign, int digits, int most, int otherwise) {
            return accepts(sign) ? number(digits, 0, most) : otherwise;
        }

        private void parseBody() {
            demand('{');
            boolean isClosed = false;
            for (int turn = 0; turn < MOST_CHARACTERS && formFault == NONE && !isClosed; turn++) {
                isClosed = accepts('}');
                if (!isClosed) {
                    parseDeclaration();
                }
            }
            if (place < length) {
                failForm();
            }
        }

        private void parseDeclaration() {
            int start = place;
            int property = number(2, 0, PROPERTIES - 1);
            if (draft.declares(0, property)) {
                failRange(start);
            }
            demand('=');
            if (accepts('$')) {
                int custom = number(2, FIRST_CUSTOM, PROPERTIES - 1);
                int fallback = accepts('/') ? number(3, 0, TOP_NUMBER) : NONE;
                draft.setDeclaration(0, property, NONE, custom, fallback);
            } else {
                draft.setDeclaration(0, property, number(3, 0, TOP_NUMBER), NONE, NONE);
            }
            demand(';');
        }

        /** One digit or more, up to so many; the form comes first, so the range is only noted. */
        private int number(int digits, int least, int most) {
            int start = place;
            int number = 0;
            for (int turn = 0; turn < digits && isWithin(current(), '0', '9'); turn++) {
                number = 10 * number + current() - '0';
                place++;
            }
            if (place == start) {
                failForm();
            } else if (!isWithin(number, least, most)) {
                failRange(start);
            }
            return number;
        }

        private void demand(char sign) {
            if (current() == sign) {
                place++;
            } else {
                failForm();
            }
        }

        private boolean accepts(char sign) {
            if (current() != sign) {
                return false;
            }
            place++;
            return true;
        }

        /** NONE at the end, and from a fault of the form on, so that nothing is read beyond it. */
        private int current() {
            return formFault == NONE && place < length ? characters.at(place) : NONE;
        }

        private void failForm() {
            if (formFault == NONE) {
                formFault = place;
            }
        }

        private void failRange(int start) {
            if (rangeFault == NONE) {
                rangeFault = start;
            }
        }
    }
}
