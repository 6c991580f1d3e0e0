import java.io.IOException;
import java.lang.reflect.Constructor;
import java.lang.reflect.Field;
import java.lang.reflect.Method;
import java.lang.reflect.Modifier;
import java.nio.charset.StandardCharsets;
import java.nio.file.Files;
import java.nio.file.Path;
import java.util.Set;
import java.util.TreeMap;
import java.util.TreeSet;
import java.util.regex.Matcher;
import java.util.regex.Pattern;

/** The public face that the document prints, and those rules of LANGUAGE.md that a look at the class and its text can tell. */
public final class FaceTest {
    private static final Check check = new Check("FaceTest");
    private static final String[] METHODS = {
        "int picture(int, int)", "int make(long)", "long bend(int, int, int)", "long height(int, int)",
        "int shape(int, int, int, int, int)", "int sideOf(int, int)", "long edge(int, int, int)",
        "int far(int, int, int, int)", "int kind(int)", "int unlike()", "int traps(int)", "int alike(int, int, int)",
        "int lay(int, int)", "int heap(long)", "int take(int)", "int heaped(int, int)", "int missing(int)",
        "int missed(int, int)", "int ways()", "int join()", "int joined(int, int)", "int trials()", "int known(int)",
        "int sheet(int, int, int)", "int lose(int)", "int put(int, int, int)", "long cell(int, int, int)",
        "int copy(int, int, int, int, int)", "int tell(int)", "int mark(int)", "int as(int, int)", "int trace()",
        "int fault()", "int told(int)"};

    public static void main(String[] args) throws IOException {
        constants();
        methods();
        constructor();
        classesInside();
        text(Files.readString(Path.of("src/main/java/CutOnce.java"), StandardCharsets.ISO_8859_1));
        check.end();
    }

    private static void constants() {
        check.due("UNKNOWN", CutOnce.UNKNOWN, -1);
        check.due("OUTSIDE", CutOnce.OUTSIDE, -2);
        check.due("STATE", CutOnce.STATE, -3);
        check.due("FULL", CutOnce.FULL, -4);
        check.due("SPENT", CutOnce.SPENT, -6);
        check.due("NONE", CutOnce.NONE, -9);
        check.due("LOST", CutOnce.LOST, Long.MIN_VALUE);
        Set<String> open = new TreeSet<>();
        for (Field field : CutOnce.class.getDeclaredFields()) {
            int m = field.getModifiers();
            if (!Modifier.isPrivate(m)) {
                open.add(field.getType() + " " + field.getName());
                check.holds(field + " is public static final", Modifier.isPublic(m) && Modifier.isStatic(m) && Modifier.isFinal(m));
            }
            check.holds(field + ": static ones are final", !Modifier.isStatic(m) || Modifier.isFinal(m));
        }
        Set<String> due = Set.of("int UNKNOWN", "int OUTSIDE", "int STATE", "int FULL", "int SPENT", "int NONE", "long LOST");
        check.holds("the constants are those of the document: " + open, open.equals(due));
    }

    private static void methods() {
        TreeMap<String, Boolean> open = new TreeMap<>();
        Set<String> names = new TreeSet<>();
        for (String method : METHODS) {
            names.add(method.substring(method.indexOf(' ') + 1, method.indexOf('(')));
        }
        for (Method method : CutOnce.class.getDeclaredMethods()) {
            int m = method.getModifiers();
            if (Modifier.isPrivate(m)) {
                check.holds(method + " bears no public name", !names.contains(method.getName()));
                continue;
            }
            StringBuilder types = new StringBuilder();
            for (Class<?> type : method.getParameterTypes()) {
                types.append(types.length() == 0 ? "" : ", ").append(type);
            }
            boolean plain = Modifier.isPublic(m) && !Modifier.isStatic(m);
            open.put(method.getReturnType() + " " + method.getName() + "(" + types + ")", plain);
        }
        check.holds("the methods are those of the document: " + open.keySet(), open.keySet().equals(new TreeSet<>(Set.of(METHODS))));
        check.holds("the methods are public, of the object", !open.containsValue(false));
    }

    private static void constructor() {
        Constructor<?>[] all = CutOnce.class.getDeclaredConstructors();
        check.due("constructors", all.length, 1);
        check.holds("it is public, without arguments", Modifier.isPublic(all[0].getModifiers()) && all[0].getParameterCount() == 0);
        int m = CutOnce.class.getModifiers();
        check.holds("the class is public and final", Modifier.isPublic(m) && Modifier.isFinal(m));
    }

    private static void classesInside() {
        Class<?>[] inside = CutOnce.class.getDeclaredClasses();
        check.holds("some twelve classes", inside.length <= 11);
        for (Class<?> one : inside) {
            int m = one.getModifiers();
            check.holds(one + " is static, not public", Modifier.isStatic(m) && !Modifier.isPublic(m) && !Modifier.isProtected(m));
            check.holds(one + " has no class inside", one.getDeclaredClasses().length == 0);
            for (Method method : one.getDeclaredMethods()) {
                check.holds(method + ": at most seven parameters", method.getParameterCount() <= 7);
            }
        }
    }

    /** Words that LANGUAGE.md rules out, outside comments. */
    private static void text(String text) {
        check.holds("signs 1 to 126 alone", text.chars().allMatch(c -> c == '\n' || c >= 32 && c < 127));
        String code = text.replaceAll("(?s)/\\*.*?\\*/", " ").replaceAll("//[^\n]*", " ");
        Pattern ruledOut = Pattern.compile("\\b(throw|throws|try|catch|synchronized|assert|import|package|protected|hashCode|toString|System\\.(?!arraycopy)\\w+|"
            + "Object|Thread|Random|Exception|Error|\\w+Exact|transient|volatile|native|var|yield|goto)\\b|->|::|@");
        Matcher found = ruledOut.matcher(code);
        while (found.find()) {
            check.holds("ruled out: " + found.group(), false);
        }
        check.holds("no text is joined by +", !code.contains("\""));
    }
}
