import java.io.IOException;
import java.lang.reflect.Constructor;
import java.lang.reflect.Field;
import java.lang.reflect.Method;
import java.lang.reflect.Modifier;
import java.nio.charset.StandardCharsets;
import java.nio.file.Files;
import java.nio.file.Path;
import java.util.ArrayList;
import java.util.Arrays;
import java.util.List;
import java.util.Map;
import java.util.TreeMap;

/** 'The public face' of the document: the class, its constants, its constructor, each method with its types and parameters. */
public final class FaceTest {
    /** The methods as the document writes them, in its order. */
    static final String[] METHODS = {
        "int picture(int w, int h)", "int make(long seed)", "long bend(int side, int i, int v)", "long height(int side, int i)",
        "int shape(int k, int lane, int i, int n, int s)", "int sideOf(int p, int e)", "long edge(int p, int e, int i)",
        "int far(int p, int e, int q, int f)",
        "int kind(int side)", "int unlike()", "int traps(int d)", "int alike(int a, int b, int way)",
        "int lay(int p, int turn)", "int heap(long seed)", "int take(int i)", "int heaped(int i, int what)", "int missing(int what)",
        "int missed(int what, int i)", "int ways()", "int join()", "int joined(int place, int what)", "int trials()",
        "int known(int p)",
        "int sheet(int k, int lane, int n)", "int lose(int k)", "int put(int k, int i, int v)", "long cell(int k, int i, int lane)",
        "int copy(int k, int i, int other, int j, int n)", "int tell(int side)", "int mark(int side)", "int as(int side, int kind)",
        "int trace()", "int fault()", "int told(int what)"};

    static final Map<String, Long> CONSTANTS =
        Map.of("UNKNOWN", -1L, "OUTSIDE", -2L, "STATE", -3L, "FULL", -4L, "SPENT", -6L, "NONE", -9L, "LOST", Long.MIN_VALUE);

    private static final String[][] HEADS = {
        {"1 pictures", "picture"}, {"2 kinds", "kind"}, {"3 the heap", "lay"}, {"4 sheets, parts", "sheet"}};

    public static void main(String[] args) {
        Sentences.holdAll(FaceTest.class);
    }

    static String sourceText() {
        try {
            return Files.readString(Path.of("src/main/java/CutOnce.java"), StandardCharsets.ISO_8859_1);
        } catch (IOException unreadable) {
            return "";
        }
    }

    static void face_theClassIsPublicAndFinal(Check check) {
        int m = CutOnce.class.getModifiers();
        check.holds("the class is public and final", Modifier.isPublic(m) && Modifier.isFinal(m));
        check.holds("it extends nothing", CutOnce.class.getSuperclass() == Object.class);
        check.due("interfaces", CutOnce.class.getInterfaces().length, 0);
    }

    static void face_constantsAndTheirValues(Check check) {
        check.due("UNKNOWN", CutOnce.UNKNOWN, -1);
        check.due("OUTSIDE", CutOnce.OUTSIDE, -2);
        check.due("STATE", CutOnce.STATE, -3);
        check.due("FULL", CutOnce.FULL, -4);
        check.due("SPENT", CutOnce.SPENT, -6);
        check.due("NONE", CutOnce.NONE, -9);
        check.due("LOST", CutOnce.LOST, Long.MIN_VALUE);
    }

    static void face_noOtherFieldIsOpen(Check check) {
        int open = 0;
        for (Field field : CutOnce.class.getDeclaredFields()) {
            int m = field.getModifiers();
            if (Modifier.isPrivate(m)) {
                continue;
            }
            open++;
            check.holds(field + " is one of the document", CONSTANTS.containsKey(field.getName()));
            check.holds(field + " is public static final", Modifier.isPublic(m) && Modifier.isStatic(m) && Modifier.isFinal(m));
            check.holds(field + " is of its type", field.getType() == (field.getName().equals("LOST") ? long.class : int.class));
        }
        check.due("open fields", open, CONSTANTS.size());
    }

    static void face_oneConstructorWithoutParameters(Check check) {
        Constructor<?>[] all = CutOnce.class.getDeclaredConstructors();
        check.due("constructors", all.length, 1);
        check.holds("it is public, without parameters", Modifier.isPublic(all[0].getModifiers()) && all[0].getParameterCount() == 0);
        check.due("what it throws", all[0].getExceptionTypes().length, 0);
    }

    static void face_methodsWithTheirTypesAndNoOther(Check check) {
        Map<String, Method> open = new TreeMap<>();
        for (Method method : CutOnce.class.getDeclaredMethods()) {
            if (!Modifier.isPrivate(method.getModifiers())) {
                open.put(withTypes(method), method);
            }
        }
        check.due("open methods", open.size(), METHODS.length);
        for (String line : METHODS) {
            Method method = open.get(line.replaceAll("(int|long) \\w+(?=[,)])", "$1"));
            check.holds("there is " + line, method != null);
            if (method != null) {
                int m = method.getModifiers();
                check.holds(line + " is public, of the object", Modifier.isPublic(m) && !Modifier.isStatic(m));
                check.due("what it throws: " + line, method.getExceptionTypes().length, 0);
            }
        }
    }

    private static String withTypes(Method method) {
        List<String> types = new ArrayList<>();
        for (Class<?> type : method.getParameterTypes()) {
            types.add(type.toString());
        }
        return method.getReturnType() + " " + method.getName() + "(" + String.join(", ", types) + ")";
    }

    static void face_parametersAreNamedAsThere(Check check) {
        String text = sourceText();
        for (String line : METHODS) {
            check.holds("the class writes: public " + line, text.contains("\n    public " + line + " {\n"));
        }
    }

    static void face_theOrderOfTheCallsAndTheHeadsAheadOfThem(Check check) {
        String text = sourceText();
        List<String> due = new ArrayList<>();
        for (String line : METHODS) {
            String name = line.substring(line.indexOf(' ') + 1, line.indexOf('('));
            for (String[] head : HEADS) {
                if (head[1].equals(name)) {
                    due.add("// ---- " + head[0] + "\n");
                }
            }
            due.add("public " + line);
        }
        int[] at = new int[due.size()];
        for (int i = 0; i < at.length; i++) {
            at[i] = text.indexOf(due.get(i));
            check.holds("there is once: " + due.get(i), at[i] >= 0 && text.indexOf(due.get(i), at[i] + 1) < 0);
        }
        int[] sorted = at.clone();
        Arrays.sort(sorted);
        check.holds("they stand in the document's order", Arrays.equals(at, sorted));
    }
}
