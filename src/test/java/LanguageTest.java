import java.lang.reflect.Constructor;
import java.lang.reflect.Executable;
import java.lang.reflect.Field;
import java.lang.reflect.InvocationTargetException;
import java.lang.reflect.Method;
import java.lang.reflect.Modifier;
import java.util.ArrayList;
import java.util.Arrays;
import java.util.List;
import java.util.Set;
import java.util.TreeSet;
import java.util.regex.Matcher;
import java.util.regex.Pattern;

/** Those rules of LANGUAGE.md that can be told from the class, from its text, or by calling it: named by the rule's number. */
public final class LanguageTest {
    private static final int MOST = State.MOST;
    private static final int LEAST = State.LEAST;
    /** Arguments for calls of so many parameters: all of them together with all. */
    private static final int[][] ARGUMENTS = {
        {},
        {LEAST, LEAST + 1, -1, 0, 1, 2, 3, 4, 5, 6, 24, 25, 39, 40, 49, 50, 51, 90, MOST - 1, MOST},
        {LEAST, LEAST + 1, -1, 0, 1, 2, 3, 4, 5, 6, 24, 25, 39, 40, 49, 50, 51, 90, MOST - 1, MOST},
        {LEAST, -1, 0, 1, 2, 3, 4, 5, 6, 9, 10, 24, 39, 40, 50, 51, MOST},
        {LEAST, -1, 0, 1, 3, 4, 5, 24, MOST},
        {LEAST, -1, 0, 1, 2, 5, MOST}};
    private static final long[] SEEDS = {Long.MIN_VALUE, -1, 0, 1, Long.MAX_VALUE};

    public static void main(String[] args) {
        Sentences.holdAll(LanguageTest.class);
    }

    private static String code() {
        return FaceTest.sourceText().replaceAll("(?s)/\\*.*?\\*/", " ").replaceAll("//[^\n]*", " ");
    }

    private static List<Class<?>> classes() {
        List<Class<?>> all = new ArrayList<>(List.of(CutOnce.class.getDeclaredClasses()));
        all.add(CutOnce.class);
        return all;
    }

    private static List<Executable> bodies() {
        List<Executable> all = new ArrayList<>();
        for (Class<?> one : classes()) {
            all.addAll(List.of(one.getDeclaredMethods()));
            all.addAll(List.of(one.getDeclaredConstructors()));
        }
        return all;
    }

    private static void hasNone(Check check, String words) {
        Matcher found = Pattern.compile(words).matcher(code());
        while (found.find()) {
            check.holds("ruled out: " + found.group(), false);
        }
        check.holds("there is a text", !code().isEmpty());
    }

    static void rule01_noPackageLine(Check check) {
        hasNone(check, "\\b(package|import)\\b");
    }

    static void rule01_noPrivateMethodBearsTheNameOfAPublicOne(Check check) {
        Set<String> names = new TreeSet<>();
        for (String line : FaceTest.METHODS) {
            names.add(line.substring(line.indexOf(' ') + 1, line.indexOf('(')));
        }
        for (Executable body : bodies()) {
            boolean open = body.getDeclaringClass() == CutOnce.class && Modifier.isPublic(body.getModifiers());
            check.holds(body + " bears no public name", open || !names.contains(body.getName()));
        }
    }

    static void rule02_classesInsideAreStaticAndNotPublic(Check check) {
        for (Class<?> one : CutOnce.class.getDeclaredClasses()) {
            int m = one.getModifiers();
            check.holds(one + " is static, not public", Modifier.isStatic(m) && !Modifier.isPublic(m) && !Modifier.isProtected(m));
        }
    }

    static void rule02_noLocalOrAnonymousClassNoLambdaNoMethodReference(Check check) {
        for (Class<?> one : CutOnce.class.getNestMembers()) {
            check.holds(one + " is one of the class's own", classes().contains(one));
        }
        hasNone(check, "->|::");
    }

    static void rule03_typesOfFieldsAndParametersAndAnswers(Check check) {
        for (Class<?> one : classes()) {
            for (Field field : one.getDeclaredFields()) {
                check.holds(field + " is of a type that there is", isOfTheLanguage(field.getType()));
            }
        }
        for (Executable body : bodies()) {
            for (Class<?> type : body.getParameterTypes()) {
                check.holds(body + " takes types that there are", isOfTheLanguage(type));
            }
            check.holds(body + " answers one", !(body instanceof Method) || isOfTheLanguage(((Method) body).getReturnType()));
        }
    }

    private static boolean isOfTheLanguage(Class<?> type) {
        return classes().contains(type) || classes().contains(type.getComponentType())
            || Set.of(void.class, int.class, long.class, boolean.class, int[].class, boolean[].class).contains(type);
    }

    static void rule04_theLibrary(Check check) {
        Matcher used = Pattern.compile("\\b(?!CutOnce)([A-Z]\\w*[a-z]\\w*)\\.\\w+").matcher(code());
        while (used.find()) {
            check.holds(used.group() + " is in the list", Set.of("System.arraycopy", "Math.abs", "Math.min", "Math.max", "Long.MIN_VALUE").contains(used.group()));
        }
        hasNone(check, "\\b(Object|Thread|Random|String|ArrayList|Iterator|Exception|Error|\\w+Exact)\\b|@");
    }

    static void rule05_staticFieldsAreFinalConstants(Check check) {
        for (Class<?> one : classes()) {
            for (Field field : one.getDeclaredFields()) {
                int m = field.getModifiers();
                boolean plain = field.getType() == int.class || field.getType() == long.class;
                check.holds(field + " is a constant, or of an object", !Modifier.isStatic(m) || Modifier.isFinal(m) && plain);
            }
        }
        hasNone(check, "\\bstatic\\s*\\{");
    }

    static void rule06_words(Check check) {
        hasNone(check, "\\b(throw|throws|try|catch|synchronized|assert|equals|hashCode|toString|transient|volatile|native|var|yield|protected)\\b");
    }

    /** Each call with all of its parameters' numbers together, on objects that are full, half full and new. */
    static void rule07_noCallEverThrowsForAnyArgumentsInAnyState(Check check) {
        List<State.Maker> makers = List.of(State::full, State::fullHeap, CutOnce::new, LanguageTest::greatest);
        for (Method method : CutOnce.class.getDeclaredMethods()) {
            if (Modifier.isPublic(method.getModifiers())) {
                for (State.Maker maker : makers) {
                    callWithAll(check, method, maker);
                }
            }
        }
    }

    private static CutOnce greatest() {
        CutOnce x = State.made(5, 5, 3);
        x.heap(4);
        x.join();
        for (int k = 0; k < 4; k++) {
            x.sheet(k, k % 3, 50);
        }
        return x;
    }

    private static void callWithAll(Check check, Method method, State.Maker maker) {
        int count = method.getParameterCount();
        boolean seeded = count == 1 && method.getParameterTypes()[0] == long.class;
        int base = seeded ? SEEDS.length : ARGUMENTS[count].length;
        CutOnce x = maker.made();
        CutOnce twin = maker.made();
        int calls = 0;
        for (int number = 0; number < Math.pow(base, count); number++) {
            if (calls++ == 200) {
                // an object is used for 512 calls at most
                x = maker.made();
                twin = maker.made();
                calls = 0;
            }
            Object[] arguments = new Object[count];
            int rest = number;
            for (int i = 0; i < count; i++) {
                arguments[i] = seeded ? (Object) SEEDS[rest % base] : (Object) ARGUMENTS[count][rest % base];
                rest /= base;
            }
            String call = method.getName() + Arrays.toString(arguments);
            long answer = answered(check, call, method, x, arguments);
            check.due(call + " on a twin (rule 13)", answered(check, call, method, twin, arguments), answer);
            check.holds(call + " answers " + answer + ", one that there is", isAnAnswer(method.getName(), answer));
        }
    }

    private static long answered(Check check, String call, Method method, CutOnce x, Object[] arguments) {
        try {
            return ((Number) method.invoke(x, arguments)).longValue();
        } catch (InvocationTargetException thrown) {
            check.holds(call + " ends without " + thrown.getCause(), false);
        } catch (IllegalAccessException closed) {
            check.holds(call + " can be made", false);
        }
        return 0;
    }

    /** Numbers below 0 are refusals and faults, but for heights, sums, cells and the trace. */
    private static boolean isAnAnswer(String name, long answer) {
        if (Set.of("bend", "height", "edge", "cell", "tell", "trace").contains(name)) {
            return answer == CutOnce.LOST || answer == (int) answer;
        }
        return answer >= 0 || answer >= -14 && answer <= -11 || FaceTest.CONSTANTS.containsValue(answer) && answer != CutOnce.LOST;
    }

    static void rule09_eachLoopHasABound(Check check) {
        hasNone(check, "\\b(while|do)\\b|for \\([^;]*;\\s*;");
    }

    static void rule11_howMany(Check check) {
        check.holds("some twelve classes", classes().size() <= 12);
        for (Executable body : bodies()) {
            check.holds(body + ": at most seven parameters", body.getParameterCount() <= 7);
        }
        for (Class<?> one : classes()) {
            long fields = Arrays.stream(one.getDeclaredFields()).filter(field -> !Modifier.isStatic(field.getModifiers())).count();
            check.holds(one + ": some twenty fields", fields <= 20);
        }
    }

    static void rule11_methodsStayShort(Check check) {
        String[] lines = FaceTest.sourceText().split("\n");
        int begin = 0;
        for (int i = 0; i < lines.length; i++) {
            if (lines[i].matches(" {4}( {4})?[^ }].*\\) \\{")) {
                begin = i;
            }
            if (lines[i].matches(" {4}( {4})?\\}")) {
                check.holds("some sixty lines: " + lines[begin].trim(), i - begin < 60);
            }
        }
    }

    /** All calls of one run live in one room: rows are made with the object and used again. */
    static void rule12_noCallMakesAnObject(Check check) {
        String text = code().replaceAll("private final \\S+ \\w+ = new [^;]*;", " ");
        for (Class<?> one : classes()) {
            for (Constructor<?> constructor : one.getDeclaredConstructors()) {
                String name = constructor.getDeclaringClass().getSimpleName();
                text = text.replaceAll("(?sm)^( *)(public )?" + name + "\\([^)]*\\) \\{.*?^\\1\\}", " ");
            }
        }
        check.holds("new stands in fields and constructors alone", !text.matches("(?s).*\\b(new|clone|copyOf\\w*)\\b.*"));
        check.holds("no text is made", !text.contains("\""));
    }

    static void rule13_noClockRandomnessFileNetworkThreadEnvironment(Check check) {
        hasNone(check, "\\b(Random|nanoTime|currentTimeMillis|Thread|Runtime|getenv|getProperty|in|out|err)\\.");
    }
}
