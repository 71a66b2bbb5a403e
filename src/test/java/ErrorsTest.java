import java.util.function.ToIntFunction;

/**
 * The conventions, promise by promise: the first error that applies is the one that is named, an error goes before
 * NONE, and a call that returns an error changes nothing, neither what can be asked for nor what is kept behind it.
 */
public final class ErrorsTest {
    private static final int NO_SUCH = -1, BAD_VALUE = -2, BAD_TEXT = -3, TOO_MANY = -4, NOT_POSSIBLE = -5, NONE = -6;
    private static final String WHOLE = wholeOf(usedStreet("r5x"));

    public static void main(String[] args) throws Exception {
        Checks.run(ErrorsTest.class);
    }

    private static void due(String call, long got, long want) {
        Checks.due(call, got, want);
    }

    /** Ducks are at each puddle but 3; 3 and those with less than 20 are frozen; the slot 1 is empty. */
    private static PuddleMinistries usedStreet(String pad) {
        PuddleMinistries x = new PuddleMinistries();
        x.set(2, 18);
        x.set(3, 7);
        x.brim(3, 9);
        x.brim(7, 45);
        x.pass(9);
        x.pass(9);
        x.permit(1, 4);
        x.permit(5, 3);
        x.shoes(1, 2);
        x.walk(1, 0, 5);
        x.pay(1);
        x.walk(1, 2, 1);
        x.save(0);
        x.pass(11);
        x.pass(10);
        x.set(0, 4);
        x.permit(2, 3);
        Checks.putAll(x, pad);
        return x;
    }

    /** All that an object tells, its history and its slots too; the object is used up by it. */
    private static String wholeOf(PuddleMinistries x) {
        StringBuilder whole = new StringBuilder(ModelTest.allOf(x));
        for (int undo = 0; undo < 7; undo++) whole.append('\n').append(x.undo()).append(": ").append(summary(x));
        for (int slot = 0; slot < 2; slot++) whole.append('\n').append(x.restore(slot)).append(": ").append(summary(x));
        return whole.toString();
    }

    private static String summary(PuddleMinistries x) {
        StringBuilder summary = new StringBuilder();
        for (int what = 0; what < 14; what++) summary.append(x.count(what)).append(' ');
        for (int puddle = 0; puddle < 12; puddle++) summary.append(x.puddle(puddle, 1)).append(' ');
        return summary.toString();
    }

    private static void dueError(String call, int error, ToIntFunction<PuddleMinistries> asked) {
        PuddleMinistries x = usedStreet("r5x");
        due(call, asked.applyAsInt(x), error);
        Checks.due(call + " changes nothing", WHOLE.equals(wholeOf(x)));
    }

    // ---- errors change nothing

    static void promise02ErrorsChangeNothing() {
        dueError("no such setting", BAD_VALUE, x -> x.set(4, 5));
        dueError("no such setting", BAD_VALUE, x -> x.set(-1, 5));
        dueError("a value below its range", BAD_VALUE, x -> x.set(3, 0));
        dueError("a value above its range", BAD_VALUE, x -> x.set(2, 100));
    }

    static void promise03ErrorsChangeNothing() {
        dueError("no such puddle", NO_SUCH, x -> x.brim(12, 5));
        dueError("brim 0", BAD_VALUE, x -> x.brim(7, 0));
        dueError("brim 61", BAD_VALUE, x -> x.brim(7, 61));
    }

    static void promise04ErrorsChangeNothing() {
        dueError("no such puddle", NO_SUCH, x -> x.drain(12));
        dueError("ducks on ice", NOT_POSSIBLE, x -> x.drain(0));
        dueError("ducks on water", NOT_POSSIBLE, x -> x.drain(7));
    }

    static void promise05ErrorsChangeNothing() {
        dueError("no such walker", NO_SUCH, x -> x.shoes(6, 1));
        dueError("shoes -1", BAD_VALUE, x -> x.shoes(1, -1));
        dueError("shoes 4", BAD_VALUE, x -> x.shoes(1, 4));
    }

    static void promise06ErrorsChangeNothing() {
        dueError("no such walker", NO_SUCH, x -> x.permit(6, 3));
        dueError("no such puddle", NO_SUCH, x -> x.permit(0, 12));
        dueError("ducks", NOT_POSSIBLE, x -> x.permit(0, 7));
        dueError("ducks, in place of one", NOT_POSSIBLE, x -> x.permit(1, 4));
    }

    static void promise07ErrorsChangeNothing() {
        dueError("no such walker", NO_SUCH, x -> x.walk(6, 3, 3));
        dueError("no such first puddle", NO_SUCH, x -> x.walk(5, 12, 3));
        dueError("no such last puddle", NO_SUCH, x -> x.walk(5, 3, 12));
        dueError("no such last puddle", NO_SUCH, x -> x.walk(5, 3, -1));
    }

    static void promise08ErrorsChangeNothing() {
        dueError("no such walker", NO_SUCH, x -> x.pay(6));
        dueError("no such walker", NO_SUCH, x -> x.pay(-1));
    }

    static void promise09ErrorsChangeNothing() {
        dueError("weather -1", BAD_VALUE, x -> x.pass(-1));
        dueError("weather 12", BAD_VALUE, x -> x.pass(12));
    }

    static void promise10ErrorsChangeNothing() {
        dueError("a fault behind a good hour", BAD_TEXT, x -> x.read());
    }

    static void promise11ErrorsChangeNothing() {
        dueError("no such puddle", NO_SUCH, x -> x.puddle(12, 0));
        dueError("no such what", BAD_VALUE, x -> x.puddle(0, 7));
    }

    static void promise12ErrorsChangeNothing() {
        dueError("no such walker", NO_SUCH, x -> x.walker(6, 0));
        dueError("no such what", BAD_VALUE, x -> x.walker(0, 6));
    }

    static void promise13ErrorsChangeNothing() {
        dueError("no such walker", NO_SUCH, x -> x.why(6, 0));
        dueError("no such puddle", NO_SUCH, x -> x.why(0, 12));
    }

    static void promise14ErrorsChangeNothing() {
        dueError("no such walker", NO_SUCH, x -> x.holds(6, 0));
        dueError("no such puddle", NO_SUCH, x -> x.holds(0, 12));
    }

    static void promise15ErrorsChangeNothing() {
        dueError("no such what", BAD_VALUE, x -> x.count(16));
    }

    static void promise16ErrorsChangeNothing() {
        dueError("no such walker", NO_SUCH, x -> x.cost(6, 3, 3, 0));
        dueError("no such puddle", NO_SUCH, x -> x.cost(5, 3, 12, 1));
        dueError("no such way", BAD_VALUE, x -> x.cost(5, 3, 3, 2));
    }

    static void promise17ErrorsChangeNothing() {
        dueError("no such puddle", NO_SUCH, x -> x.untilDry(12));
    }

    static void promise18ErrorsChangeNothing() {
        dueError("no such walker", NO_SUCH, x -> x.leastShoes(6));
    }

    static void promise19ErrorsChangeNothing() {
        dueError("no such walker", NO_SUCH, x -> x.longestWalk(6, 0));
        dueError("no such what", BAD_VALUE, x -> x.longestWalk(5, 2));
    }

    static void promise20ErrorsChangeNothing() {
        dueError("no character", BAD_VALUE, x -> x.put(0));
        dueError("a code too small", BAD_VALUE, x -> x.put(' ' << 8 | 's'));
        dueError("a code too great", BAD_VALUE, x -> x.put(127 << 8 | 's'));
        dueError("a bit above", BAD_VALUE, x -> x.put(1L << 40 | 's'));
    }

    static void promise20TooManyChangesNothing() {
        String pad = "r5x".repeat(19);
        PuddleMinistries x = usedStreet(pad);
        due("put of four behind 57", x.put(Checks.packed("ssss")), TOO_MANY);
        Checks.due("it changes nothing", wholeOf(usedStreet(pad)).equals(wholeOf(x)));
    }

    static void promise23ErrorChangesNothing() {
        PuddleMinistries x = new PuddleMinistries();
        due("undo of nothing", x.undo(), NOT_POSSIBLE);
        Checks.due("it changes nothing", wholeOf(new PuddleMinistries()).equals(wholeOf(x)));
    }

    static void promise24ErrorsChangeNothing() {
        dueError("no such slot", BAD_VALUE, x -> x.save(2));
        dueError("no such slot", BAD_VALUE, x -> x.save(-1));
    }

    static void promise25ErrorsChangeNothing() {
        dueError("no such slot", BAD_VALUE, x -> x.restore(2));
        dueError("an empty slot", NOT_POSSIBLE, x -> x.restore(1));
    }

    // ---- questions and answers of NONE change nothing

    static void promises11To19AnswersChangeNothing() {
        PuddleMinistries x = usedStreet("r5x");
        due("holds", x.holds(0, 0), NONE);
        due("leastShoes", x.leastShoes(0), NONE);
        due("longestWalk", x.longestWalk(0, 1), NONE);
        due("why", x.why(5, 3), 0);
        due("cost", x.cost(5, 3, 0, 0), 0);
        due("cost", x.cost(5, 3, 0, 1), 0);
        due("untilDry", x.untilDry(3), 6);
        due("fault", x.fault(), 2);
        Checks.due("they change nothing", WHOLE.equals(wholeOf(x)));
    }

    // ---- the first error that applies

    static void promise02OneErrorForBoth() {
        due("neither setting nor value", new PuddleMinistries().set(4, -1), BAD_VALUE);
    }

    static void promise03NoSuchGoesBeforeBadValue() {
        PuddleMinistries x = new PuddleMinistries();
        due("brim 0", x.brim(12, 0), NO_SUCH);
        due("brim 61", x.brim(-1, 61), NO_SUCH);
    }

    static void promise04NoSuchGoesBeforeNotPossible() {
        PuddleMinistries x = Streets.withDucks(15, 0, 0, 0, 0, 0, 0, 0, 0, 0, 0, 15);
        due("below the first one, with ducks", x.drain(-1), NO_SUCH);
        due("above the last one, with ducks", x.drain(12), NO_SUCH);
        due("as many as a shift turns round", x.drain(32), NO_SUCH);
    }

    static void promise05NoSuchGoesBeforeBadValue() {
        PuddleMinistries x = new PuddleMinistries();
        due("shoes 4", x.shoes(6, 4), NO_SUCH);
        due("shoes -1", x.shoes(-1, -1), NO_SUCH);
    }

    static void promise06NoSuchGoesBeforeNotPossible() {
        PuddleMinistries x = Streets.withDucks(15);
        due("no such walker, with ducks", x.permit(6, 0), NO_SUCH);
        due("no such walker, with ducks", x.permit(-1, 0), NO_SUCH);
        due("ducks", x.permit(5, 0), NOT_POSSIBLE);
    }

    static void promise11NoSuchGoesBeforeBadValue() {
        PuddleMinistries x = new PuddleMinistries();
        due("what 7", x.puddle(12, 7), NO_SUCH);
        due("what -1", x.puddle(-1, -1), NO_SUCH);
    }

    static void promise12NoSuchGoesBeforeBadValue() {
        PuddleMinistries x = new PuddleMinistries();
        due("what 6", x.walker(6, 6), NO_SUCH);
        due("what -1", x.walker(-1, -1), NO_SUCH);
    }

    static void promise14NoSuchGoesBeforeNone() {
        PuddleMinistries x = new PuddleMinistries();
        due("no such walker", x.holds(6, 0), NO_SUCH);
        due("no such puddle", x.holds(0, 12), NO_SUCH);
    }

    static void promise16NoSuchGoesBeforeBadValue() {
        PuddleMinistries x = new PuddleMinistries();
        due("no such walker", x.cost(6, 0, 0, 2), NO_SUCH);
        due("no such first puddle", x.cost(0, 12, 0, -1), NO_SUCH);
        due("no such last puddle", x.cost(0, 0, -1, 2), NO_SUCH);
    }

    static void promise17NoSuchGoesBeforeNone() {
        PuddleMinistries x = Streets.holding(9);
        x.set(1, 0);
        due("no such puddle", x.untilDry(12), NO_SUCH);
        due("none", x.untilDry(0), NONE);
    }

    static void promise18NoSuchGoesBeforeNone() {
        PuddleMinistries x = Streets.holding(60);
        due("no such walker", x.leastShoes(6), NO_SUCH);
        due("none", x.leastShoes(5), NONE);
    }

    static void promise19NoSuchGoesBeforeBadValueAndNone() {
        PuddleMinistries x = new PuddleMinistries();
        x.pass(5);
        x.pass(10);
        due("neither walker nor what", x.longestWalk(6, 2), NO_SUCH);
        due("no such walker", x.longestWalk(6, 1), NO_SUCH);
        due("no such what", x.longestWalk(5, 2), BAD_VALUE);
        due("no row", x.longestWalk(5, 1), NONE);
    }

    static void promise20BadValueGoesBeforeTooMany() {
        PuddleMinistries x = new PuddleMinistries();
        Checks.putAll(x, "s".repeat(60));
        due("no character", x.put(0), BAD_VALUE);
        due("a code too small", x.put(' '), BAD_VALUE);
        due("a bit above", x.put(1L << 63 | 's'), BAD_VALUE);
        due("a good one", x.put('s'), TOO_MANY);
    }

    static void promise25BadValueGoesBeforeNotPossible() {
        PuddleMinistries x = new PuddleMinistries();
        due("no such slot", x.restore(2), BAD_VALUE);
        due("no such slot", x.restore(-1), BAD_VALUE);
        due("an empty one", x.restore(1), NOT_POSSIBLE);
    }
}
