import java.lang.reflect.Method;
import java.util.Set;
import java.util.TreeSet;

/** Each promise has tests of its own, told by their names: an ordinary one, and those of its boundary cases. */
public final class PromisesTest {
    private static final int PROMISES = 25;
    private static final Class<?>[] ORDINARY = {ChangesTest.class, QuestionsTest.class, TextsTest.class, UndoTest.class};
    private static final Class<?>[] EDGES = {ChangeEdgesTest.class, WeatherEdgesTest.class, QuestionEdgesTest.class,
        TextEdgesTest.class, UndoEdgesTest.class};

    public static void main(String[] args) {
        Set<String> ordinary = promisesOf(ORDINARY), edges = promisesOf(EDGES);
        for (int number = 1; number <= PROMISES; number++) {
            String promise = number < 10 ? "0" + number : "" + number;
            Checks.due("an ordinary test of promise " + promise, ordinary.contains(promise));
            Checks.due("a test of a boundary case of promise " + promise, edges.contains(promise));
        }
        Checks.finish("PromisesTest");
    }

    private static Set<String> promisesOf(Class<?>[] tests) {
        Set<String> promises = new TreeSet<>();
        for (Class<?> test : tests) {
            for (Method method : test.getDeclaredMethods()) {
                String name = method.getName();
                if (name.matches(Checks.TEST_NAME)) promises.add(name.replaceAll("[^0-9]*([0-9]{2}).*", "$1"));
            }
        }
        return promises;
    }
}
