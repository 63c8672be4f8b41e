import java.lang.reflect.InvocationTargetException;
import java.lang.reflect.Method;
import java.util.ArrayList;
import java.util.Comparator;
import java.util.List;
import java.util.regex.Matcher;
import java.util.regex.Pattern;

/** Runs those methods of a test that are each for one sentence: promise, its number, what it is about. */
final class Sentences {
    private static final Pattern NAME = Pattern.compile("promise([0-9]+)[A-Z]\\w*");

    private Sentences() {
    }

    /** The promise's number that a method's name tells; 0, if it is no test of a sentence. */
    static int promiseOf(Method method) {
        Matcher matcher = NAME.matcher(method.getName());
        return matcher.matches() ? Integer.parseInt(matcher.group(1)) : 0;
    }

    static List<Method> of(Class<?> tests) {
        List<Method> found = new ArrayList<>();
        for (Method method : tests.getDeclaredMethods()) {
            if (promiseOf(method) > 0) {
                found.add(method);
            }
        }
        found.sort(Comparator.comparingInt(Sentences::promiseOf).thenComparing(Method::getName));
        return found;
    }

    /** Runs them all and ends the program with 1 if an answer was wrong, or a test asked nothing. */
    static void runAll(Class<?> tests, Checks checks) {
        List<Method> all = of(tests);
        for (Method method : all) {
            checks.within(method.getName());
            int before = checks.made();
            run(method, checks);
            if (checks.made() == before) {
                checks.due("answers asked for", 0, 1);
            }
        }
        System.out.println(tests.getName() + ": " + all.size() + " sentences");
        checks.end(tests.getName());
    }

    private static void run(Method method, Checks checks) {
        try {
            method.setAccessible(true);
            method.invoke(null);
        } catch (InvocationTargetException e) {
            checks.wrong("threw " + e.getCause());
        } catch (IllegalAccessException | IllegalArgumentException e) {
            checks.wrong("can not be run: " + e);
        }
    }
}
