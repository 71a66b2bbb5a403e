/** Promises 11 to 19: what there is, and what if. */
public final class QuestionsTest {
    private static final int NO_SUCH = -1, BAD_VALUE = -2, NONE = -6;
    private static final int MAX = Integer.MAX_VALUE, MIN = Integer.MIN_VALUE;
    private static final int[] NO_WALKERS = {-1, 6, MAX, MIN};
    private static final int[] NO_PUDDLES = {-1, 12, MAX, MIN};

    public static void main(String[] args) throws Exception {
        Checks.run(QuestionsTest.class);
    }

    private static void due(String call, long got, long want) {
        Checks.due(call, got, want);
    }

    /** A puddle for each depth: the puddle p holds 5 * p + 4 of water, up to 59. */
    private static PuddleMinistries streetOfDepths() {
        PuddleMinistries x = new PuddleMinistries();
        for (int puddle = 0; puddle < 12; puddle++) x.brim(puddle, 60);
        for (int hour = 0; hour < 7; hour++) x.pass(9);
        for (int puddle = 0; puddle < 12; puddle++) x.brim(puddle, 5 * puddle + 4);
        return x;
    }

    static void promise11Puddle() {
        PuddleMinistries x = streetOfDepths();
        for (int puddle : NO_PUDDLES) due("puddle " + puddle, x.puddle(puddle, 9), NO_SUCH);
        for (int what : new int[] {-1, 7, MAX, MIN}) due("what " + what, x.puddle(0, what), BAD_VALUE);
        for (int puddle = 0; puddle < 12; puddle++) {
            due("brim", x.puddle(puddle, 0), 5 * puddle + 4);
            due("water", x.puddle(puddle, 1), 5 * puddle + 4);
            due("depth", x.puddle(puddle, 2), puddle);
        }
        x.brim(3, 60);
        due("brim", x.puddle(3, 0), 60);
        due("water", x.puddle(3, 1), 19);
        x.pass(10);
        x.pass(11);
        for (int puddle = 0; puddle < 12; puddle++) {
            due("frozen", x.puddle(puddle, 3), puddle < 4 ? 1 : 0);
            due("ducks", x.puddle(puddle, 4), puddle < 4 ? 0 : 1);
        }
        x.permit(5, 2);
        x.permit(0, 2);
        due("permits", x.puddle(2, 6), 33);
        due("no permits", x.puddle(3, 6), 0);
        x.walk(5, 2, 2);
        x.walk(0, 2, 3);
        x.walk(1, 2, 2);
        due("crossed", x.puddle(2, 5), 2);
        due("not crossed", x.puddle(3, 5), 0);
    }

    static void promise12Walker() {
        PuddleMinistries x = streetOfDepths();
        for (int walker : NO_WALKERS) due("walker " + walker, x.walker(walker, 9), NO_SUCH);
        for (int what : new int[] {-1, 6, MAX, MIN}) due("what " + what, x.walker(0, what), BAD_VALUE);
        for (int shoes = 0; shoes < 4; shoes++) {
            x.shoes(1, shoes);
            due("shoes", x.walker(1, 0), shoes);
            due("may cross", x.walker(1, 5), (1 << 2 * shoes + 2) - 1);
        }
        x.walk(1, 0, 11);
        due("owes", x.walker(1, 1), 3 * 28);
        x.pay(1);
        x.walk(1, 2, 1);
        due("owes", x.walker(1, 1), 9);
        due("paid", x.walker(1, 2), 84);
        due("crossed", x.walker(1, 3), 10);
        x.permit(1, 11);
        x.permit(1, 2);
        due("permits", x.walker(1, 4), 1 << 11 | 4);
        due("may cross", x.walker(1, 5), 255 | 1 << 11);
        x.pass(10);
        due("may cross dry ice, or with a permit", x.walker(1, 5), 1 | 4 | 16 | 32 | 64 | 128 | 1 << 11);
        due("of another one", x.walker(2, 4), 0);
        x.pass(11);
        due("may not cross ducks", x.walker(1, 5), 1 | 4);
    }

    static void promise13WhyDepthAndShoes() {
        PuddleMinistries x = streetOfDepths();
        for (int walker : NO_WALKERS) due("why " + walker, x.why(walker, 0), NO_SUCH);
        for (int puddle : NO_PUDDLES) due("why " + puddle, x.why(0, puddle), NO_SUCH);
        for (int shoes = 0; shoes < 4; shoes++) {
            x.shoes(2, shoes);
            for (int puddle = 0; puddle < 12; puddle++) {
                due("why with " + shoes, x.why(2, puddle), puddle <= 1 + 2 * shoes ? 0 : 2);
            }
        }
        x.permit(2, 11);
        due("why with a permit", x.why(2, 11), 0);
        due("without one", x.why(3, 11), 2);
        due("for another one", x.why(2, 10), 2);
    }

    static void promise13WhyIceAndDucks() {
        PuddleMinistries x = streetOfDepths();
        x.shoes(2, 3);
        x.permit(2, 3);
        x.pass(10);
        due("ice over less than a depth of 1", x.why(0, 0), 0);
        due("thin ice", x.why(0, 1), 3);
        due("thin ice with shoes", x.why(2, 2), 3);
        due("thin ice, not too deep", x.why(0, 3), 3);
        due("ice with a permit", x.why(2, 3), 0);
        due("no ice", x.why(0, 4), 2);
        x.pass(0);
        x.pass(0);
        x.set(2, 18);
        x.permit(2, 4);
        x.pass(11);
        due("ducks", x.count(10), 4095 & ~15);
        due("ducks, with shoes", x.why(2, 5), 1);
        due("ducks, with a permit", x.why(2, 4), 1);
        due("ducks, too deep", x.why(0, 11), 1);
        due("no ducks", x.why(2, 3), 0);
        x.brim(4, 14);
        x.pass(10);
        due("ducks on ice", x.why(0, 4), 1);
        x.pass(11);
        due("ice without ducks", x.why(0, 4), 3);
        due("ice without ducks, with a permit", x.why(2, 4), 0);
    }

    static void promise14Holds() {
        PuddleMinistries x = new PuddleMinistries();
        for (int walker : NO_WALKERS) due("holds " + walker, x.holds(walker, 0), NO_SUCH);
        for (int puddle : NO_PUDDLES) due("holds " + puddle, x.holds(0, puddle), NO_SUCH);
        due("without", x.holds(5, 11), NONE);
        x.permit(5, 11);
        due("holds", x.holds(5, 11), 5);
        due("for another one", x.holds(4, 11), NONE);
        due("of another one", x.holds(5, 10), NONE);
        x.pass(11);
        due("holds", x.holds(5, 11), 4);
        x.pass(10);
        x.pass(11);
        due("no day goes by on ice", x.holds(5, 11), 4);
        x.drain(11);
        x.pass(11);
        due("a day goes by behind the ice", x.holds(5, 11), 3);
        x.pass(11);
        x.pass(11);
        due("the last day", x.holds(5, 11), 1);
        due("permits on the last day", x.puddle(11, 6), 32);
        x.pass(11);
        due("no permits", x.puddle(11, 6), 0);
        due("over", x.holds(5, 11), NONE);
    }

    static void promise15Count() {
        PuddleMinistries x = new PuddleMinistries();
        for (int what : new int[] {-1, 16, MAX, MIN}) due("count " + what, x.count(what), BAD_VALUE);
        for (int setting = 0; setting < 4; setting++) {
            x.set(setting, 7 + setting);
            due("setting", x.count(setting), 7 + setting);
        }
        x.pass(9);
        x.pass(0);
        x.pass(9);
        x.drain(2);
        x.pass(11);
        due("days", x.count(4), 1);
        due("water", x.count(5), 110);
        due("fell", x.count(6), 216);
        due("dried", x.count(7), 96);
        due("drained", x.count(8), 10);
        due("no ice", x.count(9), 0);
        due("ducks", x.count(10), 4095 & ~4);
        x.permit(0, 2);
        x.permit(3, 2);
        due("permits", x.count(11), 2);
        x.pass(10);
        due("frozen", x.count(9), 4095);
        x.pass(0);
        x.set(2, 99);
        x.pass(11);
        x.shoes(4, 3);
        x.walk(4, 0, 3);
        x.walk(5, 2, 2);
        x.shoes(5, 1);
        x.walk(5, 0, 0);
        due("owed", x.count(12), 3 * 14 + 14);
        x.pay(4);
        due("owed", x.count(12), 14);
        due("paid", x.count(13), 42);
        due("pad", x.count(14), 0);
        x.put(Checks.packed("r9r9"));
        due("pad", x.count(14), 4);
        due("changes", x.count(15), 6);
        x.undo();
        due("changes", x.count(15), 5);
    }

    static void promise16Cost() {
        PuddleMinistries x = streetOfDepths();
        for (int walker : NO_WALKERS) due("cost " + walker, x.cost(walker, 0, 0, 9), NO_SUCH);
        for (int puddle : NO_PUDDLES) {
            due("cost from " + puddle, x.cost(0, puddle, 0, 9), NO_SUCH);
            due("cost to " + puddle, x.cost(0, 0, puddle, 9), NO_SUCH);
        }
        for (int way : new int[] {-1, 2, MAX, MIN}) due("way " + way, x.cost(0, 0, 0, way), BAD_VALUE);
        x.shoes(1, 2);
        x.permit(1, 8);
        for (int way = 0; way < 2; way++) {
            due("up to the block", x.cost(1, 0, 11, way), 3 * 15);
            due("one", x.cost(1, 5, 5, way), 15);
            due("blocked one", x.cost(1, 6, 6, way), 0);
            due("down", x.cost(1, 5, 3, way), 36);
            due("down from the permit", x.cost(1, 8, 0, way), 24);
            due("down to the end", x.cost(1, 3, 0, way), 18);
        }
        x.set(0, 20);
        x.pass(10);
        x.permit(1, 1);
        x.permit(1, 2);
        for (int way = 0; way < 2; way++) {
            due("ice costs nothing", x.cost(1, 0, 2, way), 0);
            due("behind the ice", x.cost(1, 4, 11, way), 180);
            due("down to the ice", x.cost(1, 5, 0, way), 180);
        }
        x.permit(1, 3);
        int told = x.cost(1, 0, 11, 0);
        due("over ice and water", told, 180);
        due("walk", x.walk(1, 0, 11), 6);
        due("walk costs what was told", x.walker(1, 1), told);
        x.pass(11);
        due("ducks, puddle by puddle", x.cost(1, 4, 11, 0), 0);
        due("ducks, by the block", x.cost(1, 4, 11, 1), 0);
    }

    static void promise17UntilDry() {
        PuddleMinistries x = streetOfDepths();
        for (int puddle : NO_PUDDLES) due("untilDry " + puddle, x.untilDry(puddle), NO_SUCH);
        x.brim(0, 1);
        due("one", x.untilDry(0), 1);
        x.brim(1, 2);
        due("just one", x.untilDry(1), 1);
        x.set(1, 1);
        due("59 by 1", x.untilDry(11), 59);
        x.set(1, 2);
        x.brim(2, 3);
        due("two", x.untilDry(2), 2);
        due("59", x.untilDry(11), 30);
        x.set(1, 20);
        due("59 by 20", x.untilDry(11), 3);
        x.brim(11, 40);
        due("40 by 20", x.untilDry(11), 2);
        x.pass(10);
        due("with ice", x.untilDry(2), 2);
        x.set(1, 0);
        due("never", x.untilDry(11), NONE);
        due("never with ice", x.untilDry(2), NONE);
        x.drain(2);
        due("dry without sun", x.untilDry(2), 0);
        x.pass(10);
        due("dry ice", x.untilDry(2), 0);
        x.set(1, 2);
        due("dry ice with sun", x.untilDry(2), 0);
        int told = x.untilDry(3);
        due("19 and ice by 2", told, 11);
        for (int hour = 1; hour < told; hour++) x.pass(0);
        due("not yet", x.puddle(3, 1), 1);
        x.pass(0);
        due("now", x.puddle(3, 1), 0);
    }

    static void promise18LeastShoes() {
        PuddleMinistries x = new PuddleMinistries();
        for (int walker : NO_WALKERS) due("leastShoes " + walker, x.leastShoes(walker), NO_SUCH);
        x.shoes(0, 3);
        due("on a dry street", x.leastShoes(0), 0);
        x.brim(7, 60);
        x.pass(9);
        due("depth 1", x.leastShoes(0), 0);
        x.pass(9);
        due("depth 3", x.leastShoes(0), 1);
        due("whatever it wears", x.leastShoes(1), 1);
        x.pass(9);
        due("depth 15 at puddle 7 is too deep", x.puddle(7, 2) > 7 ? x.leastShoes(0) : 99, NONE);
        x.permit(0, 7);
        due("with a permit", x.leastShoes(0), 2);
        due("without one", x.leastShoes(1), NONE);
        x.brim(7, 39);
        due("depth 7", x.leastShoes(1), 3);
        x.brim(7, 29);
        due("depth 5", x.leastShoes(1), 2);
        x.brim(7, 12);
        x.pass(10);
        due("thin ice", x.leastShoes(1), NONE);
        due("thin ice with a permit", x.leastShoes(0), 2);
        x.pass(11);
        due("ducks", x.leastShoes(0), NONE);
        x.set(2, 99);
        x.pass(11);
        due("no ducks", x.leastShoes(0), 2);
        x.drain(7);
        x.pass(10);
        due("dry ice", x.leastShoes(1), 2);
        for (int end = 0; end < 12; end += 11) {
            PuddleMinistries y = new PuddleMinistries();
            y.brim(end, 35);
            for (int hour = 0; hour < 4; hour++) y.pass(9);
            for (int puddle = 0; puddle < 12; puddle++) {
                if (puddle != end) y.drain(puddle);
            }
            due("one deep puddle at an end", y.leastShoes(5), 3);
        }
    }

    static void promise19LongestWalk() {
        PuddleMinistries x = new PuddleMinistries();
        for (int walker : NO_WALKERS) due("longestWalk " + walker, x.longestWalk(walker, 9), NO_SUCH);
        for (int what : new int[] {-1, 2, MAX, MIN}) due("what " + what, x.longestWalk(0, what), BAD_VALUE);
        for (int hour = 0; hour < 3; hour++) x.pass(9);
        dueLongest(x, 0, NONE);
        x.drain(11);
        dueLongest(x, 1, 11);
        x.drain(4);
        dueLongest(x, 1, 4);
        x.permit(0, 10);
        dueLongest(x, 2, 10);
        x.drain(5);
        dueLongest(x, 2, 4);
        x.drain(0);
        x.drain(1);
        dueLongest(x, 2, 0);
        x.permit(0, 9);
        dueLongest(x, 3, 9);
        x.drain(2);
        x.drain(3);
        dueLongest(x, 6, 0);
        due("of another one", x.longestWalk(1, 0), 6);
        x.shoes(0, 2);
        dueLongest(x, 12, 0);
        x.brim(0, 60);
        for (int hour = 0; hour < 5; hour++) x.pass(9);
        dueLongest(x, 11, 1);
    }

    private static void dueLongest(PuddleMinistries x, int length, int first) {
        due("longestWalk 0", x.longestWalk(0, 0), length);
        due("longestWalk 1", x.longestWalk(0, 1), first);
    }

    static void promises11To19ChangeNothing() {
        PuddleMinistries x = streetOfDepths();
        x.permit(0, 4);
        String before = ModelTest.allOf(x);
        x.cost(0, 0, 11, 0);
        x.cost(0, 0, 11, 1);
        x.untilDry(4);
        x.leastShoes(0);
        x.longestWalk(0, 0);
        Checks.due("questions change nothing", before.equals(ModelTest.allOf(x)));
    }
}
