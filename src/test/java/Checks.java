import java.lang.reflect.InvocationTargetException;
import java.lang.reflect.Method;
import java.util.Arrays;
import java.util.Comparator;

/** Runs the tests of a class, counts the answers that are not as due, and prints them. */
final class Checks {
    static final String TEST_NAME = "promises?[0-9]{2}[A-Za-z0-9]+";

    private static String test = "";
    private static int wrong = 0;
    private static int asked = 0;

    private Checks() {
    }

    /** Runs each method whose name begins with "promise", so that none is left out of a list by mistake. */
    static void run(Class<?> tests) throws IllegalAccessException {
        Method[] methods = tests.getDeclaredMethods();
        Arrays.sort(methods, Comparator.comparing(Method::getName));
        int ran = 0;
        for (Method method : methods) {
            if (!method.getName().matches(TEST_NAME)) continue;
            test = method.getName();
            ran++;
            run(method);
        }
        due("there are tests in " + tests.getName(), ran > 0);
        System.out.println(ran + " tests");
        finish(tests.getName());
    }

    private static void run(Method method) throws IllegalAccessException {
        int askedBefore = asked;
        try {
            method.invoke(null);
        } catch (InvocationTargetException e) {
            due("ends without " + e.getCause(), false);
        }
        due("asks for something", asked > askedBefore);
    }

    static void due(String call, long got, long want) {
        asked++;
        if (got == want) return;
        wrong++;
        System.out.println(test + ": " + call + " answered " + got + ", due is " + want);
    }

    static void due(String call, boolean got) {
        due(call, got ? 1 : 0, 1);
    }

    /** Texts are put as numbers, so a test that tells them as texts packs them first. */
    static long packed(String text) {
        long number = 0;
        for (char sign : text.toCharArray()) number = number << 8 | sign;
        return number;
    }

    static void putAll(PuddleMinistries x, String text) {
        for (int at = 0; at < text.length(); at += 8) {
            int end = Math.min(text.length(), at + 8);
            due("put of " + text.substring(at, end), x.put(packed(text.substring(at, end))) >= 0);
        }
    }

    static int readAll(PuddleMinistries x, String text) {
        putAll(x, text);
        return x.read();
    }

    static void finish(String tests) {
        System.out.println(tests + ": " + asked + " answers, " + wrong + " not as due");
        if (wrong != 0) System.exit(1);
    }
}
