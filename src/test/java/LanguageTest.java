import java.io.IOException;
import java.lang.management.ManagementFactory;
import java.lang.reflect.Field;
import java.lang.reflect.Member;
import java.lang.reflect.Method;
import java.lang.reflect.Modifier;
import java.nio.file.Files;
import java.nio.file.Path;
import java.util.ArrayList;
import java.util.List;
import java.util.Set;
import java.util.TreeSet;
import java.util.regex.Matcher;
import java.util.regex.Pattern;

/** The public face, and the rules of ../shared/LANGUAGE.md that can be seen from outside. */
public final class LanguageTest {
    private static final Path SOURCE = Path.of("src", "main", "java", "StyleCascade.java");
    private static int wrong = 0;

    public static void main(String[] args) throws IOException, NoSuchMethodException {
        face();
        classesInside();
        source();
        noCallThrows();
        room();
        System.out.println(wrong == 0 ? "the language is kept to" : wrong + " faults of language");
        if (wrong != 0) {
            System.exit(1);
        }
    }

    private static void expect(boolean holds, String rule) {
        if (!holds) {
            wrong++;
            System.out.println("not kept: " + rule);
        }
    }

    /** That each line of the face stands in the source is told by OutlineTest; here, that nothing else does. */
    private static void face() throws IOException, NoSuchMethodException {
        Class<?> type = StyleCascade.class;
        expect(type.getPackageName().isEmpty(), "no package");
        List<Method> calls = Face.calls();
        Set<String> names = new TreeSet<>();
        for (Method call : calls) {
            names.add(call.getName());
        }
        List<Member> beside = new ArrayList<>();
        for (Method method : type.getDeclaredMethods()) {
            if (!calls.contains(method)) {
                beside.add(method);
                expect(!names.contains(method.getName()), method + " bears a public name");
            }
        }
        for (Field field : type.getDeclaredFields()) {
            if (!Face.lines().contains("public static final int " + field.getName() + " = " + number(field) + ";")) {
                beside.add(field);
            }
        }
        expect(type.getDeclaredConstructors().length == 1, "one constructor");
        for (Member member : beside) {
            expect(Modifier.isPrivate(member.getModifiers()), member + " is private");
        }
    }

    /** The number of a constant of the face; none for what is private. */
    private static String number(Field field) {
        if (!Modifier.isPublic(field.getModifiers()) || !Modifier.isStatic(field.getModifiers())) {
            return "";
        }
        try {
            return String.valueOf(field.get(null));
        } catch (IllegalAccessException e) {
            return "";
        }
    }

    private static void classesInside() {
        Class<?>[] inside = StyleCascade.class.getDeclaredClasses();
        expect(inside.length <= 12, "some twelve classes");
        for (Class<?> type : inside) {
            expect(Modifier.isStatic(type.getModifiers()), type + " is static");
            expect(!Modifier.isPublic(type.getModifiers()), type + " is not public");
            for (Method method : type.getDeclaredMethods()) {
                expect(method.getParameterCount() <= 7, method + " takes at most seven parameters");
                expect(!Set.of("equals", "hashCode", "toString").contains(method.getName()), method + " is of Object");
            }
        }
        List<Class<?>> all = new ArrayList<>(List.of(inside));
        all.add(StyleCascade.class);
        for (Class<?> type : all) {
            int fields = 0;
            for (Field field : type.getDeclaredFields()) {
                boolean isStatic = Modifier.isStatic(field.getModifiers());
                expect(!isStatic || Modifier.isFinal(field.getModifiers()), field + " is final");
                fields += isStatic ? 0 : 1;
            }
            expect(fields <= 20, type + " has at most twenty fields");
        }
    }

    private static void source() throws IOException {
        String source = Files.readString(SOURCE);
        expect(source.chars().allMatch(sign -> sign == '\n' || sign >= 32 && sign < 127), "plain signs");
        String code = source.replaceAll("(?s)/\\*.*?\\*/", " ").replaceAll("//[^\n]*", " ")
                .replaceAll("'(\\\\.|[^'\\\\])'", "0").replaceAll("\"(\\\\.|[^\"\\\\])*\"", "0");
        Matcher word = Pattern.compile("\\b(throw|throws|try|catch|finally|synchronized|assert|import|package"
                + "|volatile|native|transient|protected|instanceof|Thread|Random|Exact|File|Object)\\b|->|::|@").matcher(code);
        while (word.find()) {
            expect(false, "without " + word.group());
        }
        Matcher library = Pattern.compile("\\b(Math|Integer|Long|System|Arrays|String|StringBuilder)\\.(\\w+)").matcher(code);
        Set<String> kept = Set.of("Math.max", "Math.min", "Integer.bitCount", "System.arraycopy");
        while (library.find()) {
            expect(kept.contains(library.group()), "library: " + library.group());
        }
        // Arrays are used in the class Row and in the ring of the history alone, where indices are looked at.
        Matcher access = Pattern.compile("\\w+\\[[^\\]]+\\]").matcher(code);
        Set<String> guarded = Set.of("cells[index]", "ring[index]", "int[Math.max(length, 0)]", "State[MOST_STATES]");
        while (access.find()) {
            expect(guarded.contains(access.group()), "array: " + access.group());
        }
    }

    /** Neither with any arguments nor behind the last call of the document; an exception ends the test. */
    private static void noCallThrows() throws IOException, NoSuchMethodException {
        List<Method> calls = Face.calls();
        for (int run = 0; run < 200; run++) {
            Dice dice = new Dice(run);
            StyleCascade x = new StyleCascade();
            for (int turn = 0; turn < 3000; turn++) {
                int[] arguments = new int[6];
                for (int number = 0; number < arguments.length; number++) {
                    arguments[number] = anyNumber(dice);
                }
                Face.answer(calls.get(dice.below(calls.size())), x, arguments);
            }
        }
    }

    /** Mostly one that a call may take. */
    private static int anyNumber(Dice dice) {
        switch (dice.below(8)) {
            case 0:
                return dice.around(-1, 1000);
            case 1:
                return dice.around(Integer.MIN_VALUE / 2, Integer.MAX_VALUE / 2);
            case 2:
                return dice.around(8, 15);
            case 3:
                return "k.<@L!{}=$/;0189".charAt(dice.below(16));
            default:
                return dice.around(0, 3);
        }
    }

    /** All calls of a run live in one room: rows are made with the object, and by no call. */
    private static void room() {
        if (!(ManagementFactory.getThreadMXBean() instanceof com.sun.management.ThreadMXBean bean)
                || !bean.isThreadAllocatedMemorySupported()) {
            return;
        }
        long id = Thread.currentThread().getId();
        exercise(new StyleCascade());
        StyleCascade x = new StyleCascade();
        bean.getThreadAllocatedBytes(id);
        long before = bean.getThreadAllocatedBytes(id);
        int calls = exercise(x);
        long used = bean.getThreadAllocatedBytes(id) - before;
        expect(calls > 100, "room: calls");
        expect(used < 1000, "no call makes objects: " + used + " bytes");
    }

    private static int exercise(StyleCascade x) {
        int calls = 0;
        for (int turn = 0; turn < 17; turn++) {
            x.add(turn / 2, turn % 6, turn % 16);
            x.rule(-1, 0, -1, turn % 4, 0, turn % 2);
            x.declare(turn, 8, turn);
            x.refer(turn, 9, 8 + turn % 8, turn);
            x.type('{' + turn % 2 * 2);
            x.fault();
            x.read();
            x.value(turn, 9);
            x.why(turn, 9, turn / 2, 1);
            x.from(turn, 9);
            x.cycle(turn, 9);
            x.element(turn, turn % 6);
            x.ruleOf(turn, turn % 9);
            x.count(turn % 7);
            calls += 14;
        }
        x.undeclare(1, 8);
        x.drop(0);
        x.undo();
        x.dress(0, 1, 1);
        x.remove();
        x.clearText();
        return calls + 6;
    }
}
