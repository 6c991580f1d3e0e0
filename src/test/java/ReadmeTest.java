import java.io.IOException;
import java.lang.reflect.InvocationTargetException;
import java.lang.reflect.Method;
import java.nio.file.Files;
import java.nio.file.Path;
import java.util.ArrayList;
import java.util.HashSet;
import java.util.List;
import java.util.Set;
import java.util.regex.Matcher;
import java.util.regex.Pattern;

/** What README.md says of the class: its examples answer as it says, its tables name every call and every constant. */
public final class ReadmeTest {
    private static final Check check = new Check("ReadmeTest");
    private static final Pattern CALL = Pattern.compile("x\\.(\\w+)\\(([^)]*)\\);(?:\\s*//\\s*([-\\w]+).*)?");
    private static final int MOST_CALLS = 512;

    private static CutOnce x;
    private static int calls;

    public static void main(String[] args) throws IOException {
        String text = Files.readString(Path.of("README.md"));
        examples(text);
        callsAreNamed(text);
        constants(text);
        faults(text);
        testsAreNamed(text);
        check.end();
    }

    /** Each line of a block of Java makes a new object or is one call, its answer behind it. */
    private static void examples(String text) {
        Matcher block = Pattern.compile("(?s)```java\n(.*?)```").matcher(text);
        Set<String> called = new HashSet<>();
        while (block.find()) {
            for (String line : block.group(1).split("\n")) {
                Matcher call = CALL.matcher(line);
                if (line.startsWith("CutOnce x = new CutOnce();")) {
                    x = new CutOnce();
                    calls = 0;
                } else if (call.matches()) {
                    called.add(call.group(1));
                    answer(line, call.group(1), call.group(2), call.group(3));
                } else {
                    check.holds("it can be run: " + line, line.isEmpty());
                }
            }
        }
        for (String line : FaceTest.METHODS) {
            String name = line.substring(line.indexOf(' ') + 1, line.indexOf('('));
            check.holds("an example calls " + name, called.contains(name));
        }
    }

    private static void answer(String line, String name, String arguments, String due) {
        calls++;
        check.holds("its object is used for 512 calls at most: " + line, calls <= MOST_CALLS);
        check.holds("its answer stands behind it: " + line, due != null);
        if (due != null) {
            long want = FaceTest.CONSTANTS.containsKey(due) ? FaceTest.CONSTANTS.get(due) : Long.parseLong(due);
            check.due(line, called(name, arguments), want);
        }
    }

    private static long called(String name, String arguments) {
        String[] texts = arguments.isEmpty() ? new String[0] : arguments.split(", ");
        for (Method method : CutOnce.class.getMethods()) {
            if (method.getName().equals(name) && method.getParameterCount() == texts.length) {
                try {
                    return ((Number) method.invoke(x, numbers(method, texts))).longValue();
                } catch (InvocationTargetException | IllegalAccessException wrong) {
                    check.holds(name + "(" + arguments + ") ends without " + wrong, false);
                }
            }
        }
        check.holds("there is " + name + "(" + arguments + ")", false);
        return 0;
    }

    private static Object[] numbers(Method method, String[] texts) {
        Object[] numbers = new Object[texts.length];
        for (int i = 0; i < texts.length; i++) {
            boolean isLong = method.getParameterTypes()[i] == long.class;
            numbers[i] = isLong ? (Object) Long.parseLong(texts[i]) : (Object) Integer.parseInt(texts[i]);
        }
        return numbers;
    }

    /** The rows of tables, by what stands in their first column. */
    private static List<String[]> rows(String text, String first) {
        List<String[]> rows = new ArrayList<>();
        for (String line : text.split("\n")) {
            String[] columns = line.split(" *\\| *");
            if (columns.length > 2 && columns[1].matches(first)) {
                rows.add(columns);
            }
        }
        return rows;
    }

    private static void callsAreNamed(String text) {
        List<String[]> rows = rows(text, "`\\w+\\(.*\\)`");
        check.due("rows of calls", rows.size(), FaceTest.METHODS.length);
        for (int i = 0; i < FaceTest.METHODS.length && i < rows.size(); i++) {
            String due = FaceTest.METHODS[i].replaceAll("(int|long) ", "");
            check.holds("row " + i + " tells " + due + ": " + rows.get(i)[1], rows.get(i)[1].equals("`" + due + "`"));
        }
    }

    private static void constants(String text) {
        List<String[]> rows = rows(text, "`[A-Z]+`");
        check.due("rows of constants", rows.size(), FaceTest.CONSTANTS.size());
        for (String[] row : rows) {
            String name = row[1].replace("`", "");
            check.holds("there is " + name, FaceTest.CONSTANTS.containsKey(name));
            check.due(name, FaceTest.CONSTANTS.getOrDefault(name, 0L), name.equals("LOST") ? Long.MIN_VALUE : Long.parseLong(row[2]));
        }
        check.holds("LOST is told to be Long.MIN_VALUE", text.contains("| `LOST` | `Long.MIN_VALUE` |"));
    }

    /** The number that fault() tells, and the answer of a call that came to it. */
    private static void faults(String text) {
        List<String[]> rows = rows(text, "[1-4] [A-Z]+");
        check.due("rows of faults", rows.size(), 4);
        for (String[] row : rows) {
            check.due("answer of " + row[1], Long.parseLong(row[2]), -10 - (row[1].charAt(0) - '0'));
        }
    }

    private static void testsAreNamed(String text) throws IOException {
        try (var files = Files.list(Path.of("src/test/java"))) {
            for (Path file : files.toList()) {
                String name = file.getFileName().toString().replace(".java", "");
                check.holds("README tells of " + name, text.contains("`" + name + "`"));
            }
        }
    }
}
