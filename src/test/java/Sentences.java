import java.lang.reflect.InvocationTargetException;
import java.lang.reflect.Method;
import java.util.Arrays;
import java.util.Comparator;

/**
 * Runs tests that hold one sentence of the document each: the static methods of a class with a Check for their argument.
 * Their names tell the promise (or the part of 'Terms', 'What it is', 'The public face', or the rule of LANGUAGE.md),
 * the call, and the sentence.
 */
final class Sentences {
    private Sentences() {
    }

    static void holdAll(Class<?> tests) {
        Check check = new Check(tests.getSimpleName());
        Method[] all = tests.getDeclaredMethods();
        Arrays.sort(all, Comparator.comparing(Method::getName));
        int held = 0;
        for (Method method : all) {
            if (method.getName().matches("(promise\\d\\d|terms|whatItIs|face|rule\\d\\d)_.*")) {
                check.begin(method.getName());
                holdOne(check, method);
                held++;
            }
        }
        check.begin("all");
        check.holds("there are sentences", held > 0);
        System.out.println(tests.getSimpleName() + ": " + held + " sentences");
        check.end();
    }

    private static void holdOne(Check check, Method method) {
        try {
            method.invoke(null, check);
        } catch (InvocationTargetException thrown) {
            check.holds("it ends without " + thrown.getCause(), false);
        } catch (IllegalAccessException closed) {
            check.holds("it can be run", false);
        }
    }
}
