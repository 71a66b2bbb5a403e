import java.lang.reflect.Constructor;
import java.lang.reflect.Field;
import java.lang.reflect.Method;
import java.lang.reflect.Modifier;
import java.nio.charset.StandardCharsets;
import java.nio.file.Files;
import java.nio.file.Path;
import java.util.Arrays;
import java.util.Set;
import java.util.TreeSet;
import java.util.regex.Matcher;
import java.util.regex.Pattern;

/** The face of the class, and the rules of ../shared/LANGUAGE.md that can be seen from outside the program. */
public final class LanguageTest {
    private static final String[] FACE = {
        "int set(int,int)", "int brim(int,int)", "int drain(int)", "int shoes(int,int)", "int permit(int,int)",
        "int walk(int,int,int)", "int pay(int)", "int pass(int)", "int read()", "int puddle(int,int)",
        "int walker(int,int)", "int why(int,int)", "int holds(int,int)", "int count(int)", "int cost(int,int,int,int)",
        "int untilDry(int)", "int leastShoes(int)", "int longestWalk(int,int)", "int put(long)", "int wipe()",
        "int fault()", "int undo()", "int save(int)", "int restore(int)"};
    private static final String[] CONSTANTS = {"NO_SUCH", "BAD_VALUE", "BAD_TEXT", "TOO_MANY", "NOT_POSSIBLE", "NONE",
        "DUTY", "SUN", "DUCKS", "KEEPS"};
    private static final Set<String> LIBRARY = Set.of("Math.min", "Math.max", "Math.abs", "Integer.bitCount");
    private static final String[] FORBIDDEN = {"throw", "throws", "try", "catch", "synchronized", "assert", "import",
        "package", "protected", "Exception", "hashCode", "toString"};

    public static void main(String[] args) throws Exception {
        Class<?> program = PuddleMinistries.class;
        Checks.due("public and final", program.getModifiers(), Modifier.PUBLIC | Modifier.FINAL);
        methods(program);
        constants(program);
        constructors(program);
        classesInside(program);
        parameters(program);
        library(program);
        lengths();
        words();
        Checks.finish("LanguageTest");
    }

    private static void methods(Class<?> program) {
        Set<String> open = new TreeSet<>(), names = new TreeSet<>();
        for (Method method : program.getDeclaredMethods()) {
            if (Modifier.isPrivate(method.getModifiers())) continue;
            StringBuilder parameters = new StringBuilder();
            for (Class<?> type : method.getParameterTypes()) parameters.append(parameters.length() == 0 ? "" : ",").append(type);
            open.add(method.getReturnType() + " " + method.getName() + "(" + parameters + ")");
            names.add(method.getName());
            Checks.due(method + " is public alone", method.getModifiers(), Modifier.PUBLIC);
        }
        Checks.due("the methods of the face " + open, open.equals(new TreeSet<>(Arrays.asList(FACE))));
        for (Method method : program.getDeclaredMethods()) {
            if (Modifier.isPrivate(method.getModifiers())) Checks.due(method + " has its own name", !names.contains(method.getName()));
        }
        for (Class<?> inside : program.getDeclaredClasses()) {
            for (Method method : inside.getDeclaredMethods()) Checks.due(method + " has its own name", !names.contains(method.getName()));
        }
    }

    private static void constants(Class<?> program) throws Exception {
        Set<String> open = new TreeSet<>();
        for (Field field : program.getDeclaredFields()) {
            if (!Modifier.isPrivate(field.getModifiers())) open.add(field.getName());
        }
        Checks.due("the constants of the face " + open, open.equals(new TreeSet<>(Arrays.asList(CONSTANTS))));
        int[] values = {-1, -2, -3, -4, -5, -6, 0, 1, 2, 3};
        for (int i = 0; i < CONSTANTS.length; i++) {
            Checks.due(CONSTANTS[i], program.getDeclaredField(CONSTANTS[i]).getInt(null), values[i]);
        }
    }

    private static void constructors(Class<?> program) {
        Constructor<?>[] made = program.getDeclaredConstructors();
        Checks.due("constructors", made.length, 1);
        Checks.due("parameters of the constructor", made[0].getParameterCount(), 0);
        Checks.due("the constructor is public", made[0].getModifiers(), Modifier.PUBLIC);
    }

    private static void classesInside(Class<?> program) {
        Checks.due("at most twelve classes", program.getDeclaredClasses().length <= 12);
        for (Class<?> inside : program.getDeclaredClasses()) {
            int modifiers = inside.getModifiers(), fields = 0;
            Checks.due(inside + " is static", Modifier.isStatic(modifiers));
            Checks.due(inside + " is not open", !Modifier.isPublic(modifiers) && !Modifier.isProtected(modifiers));
            for (Field field : inside.getDeclaredFields()) {
                if (Modifier.isStatic(field.getModifiers())) Checks.due(field + " is final", Modifier.isFinal(field.getModifiers()));
                else fields++;
            }
            Checks.due(inside + " has at most twenty fields", fields <= 20);
        }
    }

    private static String code() throws Exception {
        String source = Files.readString(Path.of("src/main/java/PuddleMinistries.java"), StandardCharsets.US_ASCII);
        return source.replaceAll("(?s)/\\*.*?\\*/|//[^\n]*", " ");
    }

    private static void parameters(Class<?> program) {
        for (Class<?> inside : program.getDeclaredClasses()) {
            for (Method method : inside.getDeclaredMethods()) Checks.due(method + " has at most seven", method.getParameterCount() <= 7);
        }
        for (Method method : program.getDeclaredMethods()) Checks.due(method + " has at most seven", method.getParameterCount() <= 7);
    }

    /** What the program takes from outside: what stands in rule 4, and of that what it has needed so far. */
    private static void library(Class<?> program) throws Exception {
        Set<String> inside = new TreeSet<>();
        for (Class<?> own : program.getDeclaredClasses()) inside.add(own.getSimpleName());
        Matcher called = Pattern.compile("\\b([A-Z]\\w*[a-z]\\w*)\\.(\\w+)\\(").matcher(code());
        while (called.find()) {
            Checks.due("may call " + called.group(), inside.contains(called.group(1)) || LIBRARY.contains(called.group(1) + "." + called.group(2)));
        }
        Matcher made = Pattern.compile("\\bnew (\\w+)").matcher(code());
        Set<String> arrays = Set.of("int", "char", "boolean");
        while (made.find()) Checks.due("may make " + made.group(), inside.contains(made.group(1)) || arrays.contains(made.group(1)));
    }

    /** A method stands between a line that opens it and the first brace behind it that is as far from the margin. */
    private static void lengths() throws Exception {
        String[] lines = code().split("\n");
        for (int i = 0; i < lines.length; i++) {
            if (!lines[i].matches(" {4,8}[A-Za-z].*\\) \\{")) continue;
            String end = lines[i].replaceAll("\\S.*", "") + "}";
            int length = 1;
            while (i + length < lines.length && !lines[i + length].equals(end)) length++;
            Checks.due("at most sixty lines: " + lines[i].strip(), length < 60);
        }
    }

    private static void words() throws Exception {
        String code = code();
        Set<String> words = new TreeSet<>(Arrays.asList(code.split("[^A-Za-z0-9_]+")));
        for (String word : FORBIDDEN) Checks.due("without the word " + word, !words.contains(word));
        for (String sign : new String[] {"->", "::", "Math.addExact", "System.out", "@"}) {
            Checks.due("without " + sign, !code.contains(sign));
        }
    }
}
