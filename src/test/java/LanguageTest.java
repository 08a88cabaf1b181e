import java.io.IOException;
import java.lang.management.ManagementFactory;
import java.lang.reflect.Constructor;
import java.lang.reflect.Field;
import java.lang.reflect.Member;
import java.lang.reflect.Method;
import java.lang.reflect.Modifier;
import java.nio.file.Files;
import java.nio.file.Path;
import java.util.ArrayList;
import java.util.List;
import java.util.Set;
import java.util.TreeSet;
import java.util.regex.Matcher;
import java.util.regex.Pattern;

/** The public face, and the rules of ../shared/LANGUAGE.md that can be seen from outside. */
public final class LanguageTest {
    private static final Path SOURCE = Path.of("src", "main", "java", "StyleCascade.java");
    private static final Set<String> METHODS = Set.of("add(3)", "remove(0)", "dress(3)", "element(2)",
            "count(1)", "undo(0)", "rule(6)", "drop(1)", "declare(3)", "refer(4)", "undeclare(2)",
            "ruleOf(2)", "declared(3)", "matches(2)", "value(2)", "winner(2)", "why(4)", "from(2)",
            "cycle(2)", "type(1)", "clearText(0)", "fault(0)", "read(0)");
    private static final Set<String> CONSTANTS = Set.of("INVALID_ARGUMENT", "NOT_POSSIBLE",
            "LIMIT_REACHED", "NOT_FOUND");

    private static int wrong = 0;

    public static void main(String[] args) throws IOException {
        face();
        classesInside();
        source();
        room();
        System.out.println(wrong == 0 ? "the language is kept to" : wrong + " faults of language");
        if (wrong != 0) {
            System.exit(1);
        }
    }

    private static void expect(boolean holds, String rule) {
        if (!holds) {
            wrong++;
            System.out.println("not kept: " + rule);
        }
    }

    private static void face() {
        Class<?> type = StyleCascade.class;
        expect(Modifier.isPublic(type.getModifiers()) && Modifier.isFinal(type.getModifiers()), "public final");
        expect(type.getPackageName().isEmpty(), "no package");
        List<Member> open = new ArrayList<>();
        Set<String> found = new TreeSet<>();
        for (Method method : type.getDeclaredMethods()) {
            boolean isFace = Modifier.isPublic(method.getModifiers());
            if (isFace) {
                found.add(method.getName() + "(" + method.getParameterCount() + ")");
                expect(method.getReturnType() == int.class, method + " returns int");
                expect(!Modifier.isStatic(method.getModifiers()), method + " is no static one");
                for (Class<?> parameter : method.getParameterTypes()) {
                    expect(parameter == int.class, method + " takes ints");
                }
            } else {
                open.add(method);
                for (String face : METHODS) {
                    expect(!face.startsWith(method.getName() + "("), method + " bears a public name");
                }
            }
        }
        expect(found.equals(new TreeSet<>(METHODS)), "the methods of the face: " + found);
        for (Field field : type.getDeclaredFields()) {
            if (Modifier.isPublic(field.getModifiers())) {
                expect(CONSTANTS.contains(field.getName()), field + " is a constant of the face");
                expect(field.getType() == int.class && Modifier.isStatic(field.getModifiers())
                        && Modifier.isFinal(field.getModifiers()), field + " is a constant");
            } else {
                open.add(field);
            }
        }
        expect(type.getFields().length == CONSTANTS.size(), "all constants of the face");
        Constructor<?>[] constructors = type.getDeclaredConstructors();
        expect(constructors.length == 1 && Modifier.isPublic(constructors[0].getModifiers())
                && constructors[0].getParameterCount() == 0, "one public constructor");
        for (Member member : open) {
            expect(Modifier.isPrivate(member.getModifiers()), member + " is private");
        }
    }

    private static void classesInside() {
        Class<?>[] inside = StyleCascade.class.getDeclaredClasses();
        expect(inside.length <= 12, "some twelve classes");
        for (Class<?> type : inside) {
            expect(Modifier.isStatic(type.getModifiers()), type + " is static");
            expect(!Modifier.isPublic(type.getModifiers()), type + " is not public");
            for (Method method : type.getDeclaredMethods()) {
                expect(method.getParameterCount() <= 7, method + " takes at most seven parameters");
                expect(!Set.of("equals", "hashCode", "toString").contains(method.getName()), method + " is of Object");
            }
        }
        List<Class<?>> all = new ArrayList<>(List.of(inside));
        all.add(StyleCascade.class);
        for (Class<?> type : all) {
            int fields = 0;
            for (Field field : type.getDeclaredFields()) {
                boolean isStatic = Modifier.isStatic(field.getModifiers());
                expect(!isStatic || Modifier.isFinal(field.getModifiers()), field + " is final");
                fields += isStatic ? 0 : 1;
            }
            expect(fields <= 20, type + " has at most twenty fields");
        }
    }

    private static void source() throws IOException {
        String source = Files.readString(SOURCE);
        expect(source.chars().allMatch(sign -> sign == '\n' || sign >= 32 && sign < 127), "plain signs");
        String code = source.replaceAll("(?s)/\\*.*?\\*/", " ").replaceAll("//[^\n]*", " ")
                .replaceAll("'(\\\\.|[^'\\\\])'", "0").replaceAll("\"(\\\\.|[^\"\\\\])*\"", "0");
        Matcher word = Pattern.compile("\\b(throw|throws|try|catch|finally|synchronized|assert|import|package"
                + "|volatile|native|transient|protected|instanceof|Thread|Random|Exact|File|Object)\\b|->|::|@").matcher(code);
        while (word.find()) {
            expect(false, "without " + word.group());
        }
        Matcher library = Pattern.compile("\\b(Math|Integer|Long|System|Arrays|String|StringBuilder)\\.(\\w+)").matcher(code);
        Set<String> kept = Set.of("Math.max", "Math.min", "Integer.bitCount", "System.arraycopy");
        while (library.find()) {
            expect(kept.contains(library.group()), "library: " + library.group());
        }
        // Arrays are used in the class Row and in the ring of the history alone, where indices are looked at.
        Matcher access = Pattern.compile("\\w+\\[[^\\]]+\\]").matcher(code);
        Set<String> guarded = Set.of("cells[index]", "ring[index]", "int[Math.max(length, 0)]", "State[MOST_STATES]");
        while (access.find()) {
            expect(guarded.contains(access.group()), "array: " + access.group());
        }
    }

    /** All calls of a run live in one room: rows are made with the object, and by no call. */
    private static void room() {
        if (!(ManagementFactory.getThreadMXBean() instanceof com.sun.management.ThreadMXBean bean)
                || !bean.isThreadAllocatedMemorySupported()) {
            return;
        }
        long id = Thread.currentThread().getId();
        exercise(new StyleCascade());
        StyleCascade x = new StyleCascade();
        bean.getThreadAllocatedBytes(id);
        long before = bean.getThreadAllocatedBytes(id);
        int calls = exercise(x);
        long used = bean.getThreadAllocatedBytes(id) - before;
        expect(calls > 100, "room: calls");
        expect(used < 1000, "no call makes objects: " + used + " bytes");
    }

    private static int exercise(StyleCascade x) {
        int calls = 0;
        for (int turn = 0; turn < 17; turn++) {
            x.add(turn / 2, turn % 6, turn % 16);
            x.rule(-1, 0, -1, turn % 4, 0, turn % 2);
            x.declare(turn, 8, turn);
            x.refer(turn, 9, 8 + turn % 8, turn);
            x.type('{' + turn % 2 * 2);
            x.fault();
            x.read();
            x.value(turn, 9);
            x.why(turn, 9, turn / 2, 1);
            x.from(turn, 9);
            x.cycle(turn, 9);
            x.element(turn, turn % 6);
            x.ruleOf(turn, turn % 9);
            x.count(turn % 7);
            calls += 14;
        }
        x.undeclare(1, 8);
        x.drop(0);
        x.undo();
        x.dress(0, 1, 1);
        x.remove();
        x.clearText();
        return calls + 6;
    }
}
