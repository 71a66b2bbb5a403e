import java.nio.file.Files;
import java.nio.file.Path;
import java.util.ArrayList;
import java.util.List;
import java.util.regex.Matcher;
import java.util.regex.Pattern;

/** The example of README.md: it stands in this file too, line by line, and each number in it is what is answered. */
public final class ReadmeTest {
    private static final Path README = Path.of("README.md"), SELF = Path.of("src/test/java/ReadmeTest.java");
    private static final Pattern ANSWERED = Pattern.compile("int (\\w+) = .*; *// (-?\\d+): .*");

    public static void main(String[] args) throws Exception {
        List<String> told = linesBetween(README, "```java", "```");
        Checks.due("the example is the one of this test", told.equals(linesBetween(SELF, "// example", "// end")));
        List<Integer> numbers = new ArrayList<>();
        for (String line : told) {
            Matcher answered = ANSWERED.matcher(line);
            if (answered.matches()) numbers.add(Integer.valueOf(answered.group(2)));
        }
        Checks.due("all but its first line have an answer", numbers.size(), told.size() - 1);
        int[] answers = answersOfTheExample();
        Checks.due("as many answers as numbers", answers.length, numbers.size());
        for (int i = 0; i < answers.length && i < numbers.size(); i++) Checks.due(told.get(i + 1), answers[i], numbers.get(i));
        Checks.finish("ReadmeTest");
    }

    private static int[] answersOfTheExample() {
        // example
        PuddleMinistries street = new PuddleMinistries();
        int rained = street.pass(9);              // 108: an hour of rain, 9 of water into each puddle
        int shoes = street.shoes(0, 1);           // 0: the walker 0 had none, and keeps out a depth of 3 now
        int crossed = street.walk(0, 0, 11);      // 12: it crosses them all
        int coins = street.pay(0);                // 36: a duty of 3 for each of twelve depths of 1
        int length = street.put('r' << 8 | '5');  // 2: the pad is "r5"
        int longer = street.put('d');             // 3: the pad is "r5d"
        int water = street.read();                // 168: an hour of rain of 5, then the day ends
        int ducks = street.count(10);             // 0: 14 of water in each puddle is 1 too little for them
        int undone = street.undo();               // 4: the weather of the pad is undone, four changes are left
        int error = street.walk(6, 0, 11);        // -1: NO_SUCH, there is no walker 6
        // end
        return new int[] {rained, shoes, crossed, coins, length, longer, water, ducks, undone, error};
    }

    private static List<String> linesBetween(Path file, String first, String last) throws Exception {
        List<String> between = new ArrayList<>();
        boolean inside = false;
        for (String line : Files.readAllLines(file)) {
            String text = line.strip();
            if (inside && text.equals(last)) return between;
            if (inside) between.add(text);
            else inside = text.equals(first);
        }
        return between;
    }
}
