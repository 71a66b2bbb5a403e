/** Promises 1 to 10: a new object, and the changes. */
public final class ChangesTest {
    private static final int NO_SUCH = -1, BAD_VALUE = -2, BAD_TEXT = -3, NOT_POSSIBLE = -5, NONE = -6;
    private static final int MAX = Integer.MAX_VALUE, MIN = Integer.MIN_VALUE;

    public static void main(String[] args) throws Exception {
        Checks.run(ChangesTest.class);
    }

    private static void due(String call, long got, long want) {
        Checks.due(call, got, want);
    }

    static void promise01NewObject() {
        PuddleMinistries x = new PuddleMinistries();
        int[] counts = {3, 2, 15, 5, 0, 0, 0, 0, 0, 0, 0, 0, 0, 0, 0, 0};
        for (int what = 0; what < 16; what++) due("new: count " + what, x.count(what), counts[what]);
        for (int puddle = 0; puddle < 12; puddle++) {
            due("new: brim " + puddle, x.puddle(puddle, 0), 20);
            for (int what = 1; what < 7; what++) due("new: puddle " + puddle + " " + what, x.puddle(puddle, what), 0);
        }
        for (int walker = 0; walker < 6; walker++) {
            for (int what = 0; what < 5; what++) due("new: walker " + walker + " " + what, x.walker(walker, what), 0);
            due("new: may cross all", x.walker(walker, 5), 4095);
        }
        due("new: undo", x.undo(), NOT_POSSIBLE);
        due("new: restore 0", x.restore(0), NOT_POSSIBLE);
        due("new: restore 1", x.restore(1), NOT_POSSIBLE);
        due("new: fault", x.fault(), 0);
    }

    static void promise02Set() {
        PuddleMinistries x = new PuddleMinistries();
        int[] first = {3, 2, 15, 5}, least = {0, 0, 1, 1}, most = {20, 20, 99, 30};
        for (int setting = 0; setting < 4; setting++) {
            due("set below", x.set(setting, least[setting] - 1), BAD_VALUE);
            due("set above", x.set(setting, most[setting] + 1), BAD_VALUE);
            due("set MAX", x.set(setting, MAX), BAD_VALUE);
            due("set MIN", x.set(setting, MIN), BAD_VALUE);
            due("after errors", x.count(setting), first[setting]);
            due("set least", x.set(setting, least[setting]), first[setting]);
            due("set most", x.set(setting, most[setting]), least[setting]);
            due("set most again", x.set(setting, most[setting]), most[setting]);
            due("count", x.count(setting), most[setting]);
        }
        for (int setting : new int[] {-1, 4, MAX, MIN}) due("set " + setting, x.set(setting, 5), BAD_VALUE);
        due("changes", x.count(15), 6);
    }

    static void promise03Brim() {
        PuddleMinistries x = new PuddleMinistries();
        for (int puddle : new int[] {-1, 12, MAX, MIN}) due("brim of " + puddle, x.brim(puddle, 0), NO_SUCH);
        for (int brim : new int[] {0, 61, -1, MAX, MIN}) due("brim " + brim, x.brim(3, brim), BAD_VALUE);
        due("no change yet", x.count(15), 0);
        due("brim", x.brim(3, 60), 20);
        due("brim", x.brim(3, 1), 60);
        due("brim", x.puddle(3, 0), 1);
        due("brim", x.brim(3, 30), 1);
        due("rain", x.pass(9), 108);
        due("rain", x.pass(9), 216);
        due("brim above water", x.brim(11, 18), 20);
        due("water stays", x.puddle(11, 1), 18);
        due("brim below water", x.brim(4, 7), 20);
        due("water is cut", x.puddle(4, 1), 7);
        due("the next gets none", x.puddle(5, 1), 18);
        due("drained", x.count(8), 11);
        due("a wider brim", x.brim(4, 60), 7);
        due("water stays low", x.puddle(4, 1), 7);
        due("dried stays", x.count(7), 0);
        due("changes", x.count(15), 6);
    }

    static void promise03BrimOfFrozenPuddle() {
        PuddleMinistries x = new PuddleMinistries();
        x.pass(9);
        x.pass(10);
        due("brim of ice", x.brim(2, 3), 20);
        due("water", x.puddle(2, 1), 3);
        due("frozen still", x.puddle(2, 3), 1);
        due("drained", x.count(8), 6);
    }

    static void promise04Drain() {
        PuddleMinistries x = new PuddleMinistries();
        for (int puddle : new int[] {-1, 12, MAX, MIN}) due("drain of " + puddle, x.drain(puddle), NO_SUCH);
        due("drain of a dry one", x.drain(11), 0);
        due("it is a change", x.count(15), 1);
        x.pass(7);
        x.pass(10);
        due("drain of a frozen one", x.drain(5), 7);
        due("it is thawed", x.puddle(5, 3), 0);
        due("it is dry", x.puddle(5, 1), 0);
        due("frozen set", x.count(9), 4095 & ~(1 << 5));
        due("drained", x.count(8), 7);
        due("dried", x.count(7), 0);
        x.pass(0);
        x.set(2, 7);
        x.pass(11);
        due("ducks", x.count(10), 4095 & ~(1 << 5));
        due("drain below ducks", x.drain(0), NOT_POSSIBLE);
        due("water stays", x.puddle(0, 1), 7);
        due("drain without ducks", x.drain(5), 0);
        due("no error if there is no puddle but ducks", x.drain(12), NO_SUCH);
    }

    static void promise05Shoes() {
        PuddleMinistries x = new PuddleMinistries();
        for (int walker : new int[] {-1, 6, MAX, MIN}) due("shoes of " + walker, x.shoes(walker, 9), NO_SUCH);
        for (int shoes : new int[] {-1, 4, MAX, MIN}) due("shoes " + shoes, x.shoes(5, shoes), BAD_VALUE);
        due("no change yet", x.count(15), 0);
        due("shoes", x.shoes(5, 3), 0);
        due("shoes", x.shoes(5, 1), 3);
        due("shoes", x.shoes(5, 1), 1);
        due("shoes", x.walker(5, 0), 1);
        due("of another one", x.walker(4, 0), 0);
        due("no shoes", x.shoes(5, 0), 1);
        due("no shoes", x.walker(5, 0), 0);
        due("changes", x.count(15), 4);
    }

    static void promise06Permit() {
        PuddleMinistries x = new PuddleMinistries();
        for (int walker : new int[] {-1, 6, MAX, MIN}) due("permit for " + walker, x.permit(walker, 0), NO_SUCH);
        for (int puddle : new int[] {-1, 12, MAX, MIN}) due("permit for " + puddle, x.permit(0, puddle), NO_SUCH);
        due("no change yet", x.count(15), 0);
        due("permit", x.permit(5, 11), 1);
        due("permit", x.permit(5, 0), 2);
        due("permit of another one", x.permit(0, 0), 1);
        due("permit again", x.permit(5, 11), 2);
        due("all permits", x.count(11), 3);
        due("changes", x.count(15), 4);
        x.brim(3, 15);
        x.pass(9);
        x.pass(9);
        x.set(2, 16);
        x.pass(11);
        due("ducks", x.count(10), 4095 & ~8);
        due("permit below ducks", x.permit(1, 2), NOT_POSSIBLE);
        due("no such walker goes first", x.permit(6, 2), NO_SUCH);
        due("permit without ducks", x.permit(1, 3), 1);
    }

    static void promise06PermitDays() {
        PuddleMinistries x = new PuddleMinistries();
        x.set(3, 2);
        x.permit(0, 0);
        x.set(3, 30);
        x.permit(0, 1);
        due("holds", x.holds(0, 0), 2);
        due("holds", x.holds(0, 1), 30);
        x.pass(11);
        due("a day less", x.holds(0, 0), 1);
        x.set(3, 4);
        due("permit in place of one", x.permit(0, 0), 2);
        due("holds anew", x.holds(0, 0), 4);
        due("permit in place of a longer one", x.permit(0, 1), 2);
        due("holds less", x.holds(0, 1), 4);
        for (int day = 0; day < 3; day++) x.pass(11);
        due("the last day", x.holds(0, 0), 1);
        due("a permit of one day", x.walker(0, 4), 3);
        due("a permit of one day", x.puddle(1, 6), 1);
        due("a permit of one day", x.count(11), 2);
        x.set(3, 1);
        due("a permit of one day", x.permit(0, 11), 3);
        x.pass(11);
        due("over", x.holds(0, 0), NONE);
        due("permits", x.count(11), 0);
        due("over for long", x.pass(11), 0);
        due("over still", x.holds(0, 0), NONE);
    }

    static void promise07Walk() {
        PuddleMinistries x = new PuddleMinistries();
        for (int walker : new int[] {-1, 6, MAX, MIN}) due("walk of " + walker, x.walk(walker, 0, 0), NO_SUCH);
        for (int puddle : new int[] {-1, 12, MAX, MIN}) {
            due("walk from " + puddle, x.walk(0, puddle, 0), NO_SUCH);
            due("walk to " + puddle, x.walk(0, 0, puddle), NO_SUCH);
        }
        due("no change yet", x.count(15), 0);
        x.pass(9);
        due("walk up", x.walk(2, 3, 5), 3);
        due("owes", x.walker(2, 1), 9);
        due("crossed", x.walker(2, 3), 3);
        due("walk down", x.walk(2, 5, 4), 2);
        due("owes more", x.walker(2, 1), 15);
        due("walk over one", x.walk(2, 11, 11), 1);
        due("walk over all", x.walk(5, 11, 0), 12);
        int[] crossed = {1, 1, 1, 2, 3, 3, 1, 1, 1, 1, 1, 2};
        for (int puddle = 0; puddle < 12; puddle++) due("crossed " + puddle, x.puddle(puddle, 5), crossed[puddle]);
        due("owes", x.walker(5, 1), 36);
        due("owed by all", x.count(12), 54);
        due("water stays", x.count(5), 108);
        x.pass(10);
        due("walk over thick water's ice", x.walk(2, 0, 11), 0);
        x.permit(2, 0);
        due("walk over ice with a permit", x.walk(2, 0, 11), 1);
        due("ice costs nothing", x.walker(2, 1), 18);
    }

    static void promise07WalkIsStopped() {
        PuddleMinistries x = new PuddleMinistries();
        x.brim(6, 4);
        x.brim(7, 9);
        x.pass(9);
        x.pass(9);
        x.drain(11);
        due("stopped at the first one", x.walk(0, 5, 11), 0);
        due("it is a change", x.count(15), 6);
        due("stopped in between", x.walk(0, 6, 11), 2);
        due("owes", x.walker(0, 1), 3);
        due("stopped on the way down", x.walk(0, 7, 0), 2);
        due("owes", x.walker(0, 1), 6);
        due("crossed", x.walker(0, 3), 4);
        due("not crossed", x.puddle(8, 5), 0);
        due("not crossed behind", x.puddle(11, 5), 0);
        x.permit(0, 8);
        due("further with a permit", x.walk(0, 6, 11), 3);
        due("a permit is no ticket", x.walker(0, 1), 6 + 3 + 12);
        x.set(0, 0);
        x.shoes(0, 2);
        due("walk for nothing", x.walk(0, 0, 11), 12);
        due("owes", x.walker(0, 1), 21);
        x.set(2, 4);
        x.pass(11);
        due("stopped by ducks", x.walk(0, 11, 0), 1);
    }

    static void promise08Pay() {
        PuddleMinistries x = new PuddleMinistries();
        for (int walker : new int[] {-1, 6, MAX, MIN}) due("pay of " + walker, x.pay(walker), NO_SUCH);
        due("no change yet", x.count(15), 0);
        due("pay nothing", x.pay(0), 0);
        due("it is a change", x.count(15), 1);
        x.pass(5);
        x.walk(0, 0, 3);
        x.walk(1, 0, 0);
        due("pay", x.pay(0), 12);
        due("owes nothing", x.walker(0, 1), 0);
        due("paid", x.walker(0, 2), 12);
        due("pay again", x.pay(0), 0);
        x.walk(0, 4, 4);
        due("pay more", x.pay(0), 3);
        due("paid", x.walker(0, 2), 15);
        due("another one owes", x.walker(1, 1), 3);
        due("paid by all", x.count(13), 15);
        due("owed by all", x.count(12), 3);
        due("pay", x.pay(1), 3);
        due("paid by all", x.count(13), 18);
    }

    static void promise09Rain() {
        PuddleMinistries x = new PuddleMinistries();
        due("rain", x.pass(1), 12);
        due("rain", x.pass(9), 120);
        x.brim(0, 12);
        x.brim(1, 15);
        due("rain runs down", x.pass(9), 12 + 15 + 20 * 10);
        due("fell", x.count(6), 12 + 108 + 108);
        due("drained", x.count(8), 1);
        x.drain(11);
        x.drain(10);
        x.drain(9);
        due("rain runs down far", x.pass(2), 12 + 15 + 20 * 8 + 2 + 2);
        due("to the first one that holds it", x.puddle(9, 1), 20);
        due("and the rest to the next", x.puddle(10, 1), 2);
        due("and the last", x.puddle(11, 1), 2);
        due("none of it to the drain", x.count(8), 61);
        due("fell", x.count(6), 252);
    }

    static void promise09RainAndFrost() {
        PuddleMinistries x = new PuddleMinistries();
        x.brim(1, 60);
        x.brim(4, 60);
        x.brim(11, 60);
        for (int hour = 0; hour < 3; hour++) x.pass(9);
        // Overflows of 7 ran on from 0, 2, 3 and 5 to 10: 1 holds 27 + 7, 4 holds 27 + 14, 11 holds 27 + 42.
        due("water", x.puddle(1, 1), 34);
        due("water", x.puddle(4, 1), 41);
        due("water", x.puddle(11, 1), 60);
        due("drained", x.count(8), 9);
        x.drain(2);
        x.drain(6);
        due("drained", x.count(8), 49);
        x.pass(10);
        due("frozen", x.count(9), 4 | 64);
        due("rain", x.pass(5), 20 + 44 + 0 + 20 + 51 + 20 + 0 + 4 * 20 + 60);
        // 5 of 0 went to 1; the rest ran from 1 (none), from 5 into the drain, and from 7 on to 11 and the drain.
        due("frozen ones get nothing", x.puddle(2, 1) + x.puddle(6, 1), 0);
        due("fell", x.count(6), 3 * 108 + 50);
        due("drained", x.count(8), 49 + 5 + 25);
        due("frozen still", x.count(9), 4 | 64);
    }

    static void promise09Sun() {
        PuddleMinistries x = new PuddleMinistries();
        x.pass(5);
        due("sun", x.pass(0), 36);
        due("dried", x.count(7), 24);
        x.set(1, 20);
        x.pass(10);
        due("sun on ice", x.pass(0), 36);
        due("it thaws", x.count(9), 0);
        due("dried", x.count(7), 24);
        due("sun dries at most what is there", x.pass(0), 0);
        due("dried", x.count(7), 60);
        due("sun on a dry street", x.pass(0), 0);
        due("dried", x.count(7), 60);
        x.set(1, 0);
        x.pass(9);
        due("no sun", x.pass(0), 108);
        x.pass(10);
        due("no sun on ice", x.pass(0), 108);
        due("it thaws by it", x.count(9), 0);
        x.pass(10);
        x.drain(3);
        x.set(1, 2);
        due("sun on ice and water", x.pass(0), 99);
        due("drained is not dried", x.count(7), 60);
        due("and not fallen", x.count(6), 168);
    }

    static void promise09Frost() {
        PuddleMinistries x = new PuddleMinistries();
        for (int hour = 0; hour < 3; hour++) x.pass(9);
        x.brim(4, 19);
        x.drain(7);
        due("frost", x.pass(10), 10 * 20 + 19);
        due("dry ones and those below 4", x.count(9), 16 | 128);
        due("frozen", x.puddle(4, 3), 1);
        due("a depth of 4 does not freeze", x.puddle(5, 3), 0);
        due("frost again", x.pass(10), 219);
        due("frozen still", x.count(9), 16 | 128);
        x.brim(5, 10);
        due("frost for one more", x.pass(10), 209);
        due("frozen", x.count(9), 16 | 32 | 128);
    }

    static void promise09DayEnds() {
        PuddleMinistries x = new PuddleMinistries();
        x.brim(0, 14);
        x.pass(9);
        x.pass(6);
        due("no ducks before", x.count(10), 0);
        due("the end of a day", x.pass(11), 14 + 16 + 150);
        due("days", x.count(4), 1);
        due("ducks at 15", x.count(10), 4094);
        x.pass(0);
        x.set(2, 50);
        due("ducks stay in the day", x.count(10), 4094);
        x.set(2, 14);
        x.pass(11);
        due("ducks go from 13, stay at 14", x.count(10), 2);
        due("days", x.count(4), 2);
        x.pass(10);
        due("ducks stay on ice in the day", x.count(10), 2);
        x.permit(3, 4);
        x.pass(0);
        x.permit(3, 5);
        x.pass(9);
        x.brim(5, 19);
        x.drain(6);
        x.pass(10);
        due("frozen: those with 14, 19 and none", x.count(9), 1 | 32 | 64);
        x.pass(11);
        due("no ducks on ice", x.count(10), 4095 & ~(1 | 32 | 64));
        due("a day less", x.holds(3, 4), 4);
        due("no day less on ice", x.holds(3, 5), 5);
        due("water stays", x.count(8) + x.count(7) + x.count(5), x.count(6));
    }

    static void promise09Errors() {
        PuddleMinistries x = new PuddleMinistries();
        for (int weather : new int[] {-1, 12, MAX, MIN}) due("pass " + weather, x.pass(weather), BAD_VALUE);
        due("no change", x.count(15), 0);
        for (int weather = 0; weather < 12; weather++) due("pass " + weather, x.pass(weather) >= 0 ? 1 : 0, 1);
        due("changes", x.count(15), 6);
    }

    static void promise10Read() {
        PuddleMinistries x = new PuddleMinistries();
        due("read", Checks.readAll(x, "r9sr1dfr5"), 96);
        due("one change", x.count(15), 1);
        due("the pad is empty", x.count(14), 0);
        due("days", x.count(4), 1);
        due("fell", x.count(6), 120);
        due("dried", x.count(7), 24);
        due("frozen", x.count(9), 4095);
        due("read of nothing", x.read(), BAD_TEXT);
        due("read of a thaw", Checks.readAll(x, "s"), 96);
        due("read of a sun", Checks.readAll(x, "s"), 72);
        for (int amount = 1; amount < 10; amount++) {
            PuddleMinistries y = new PuddleMinistries();
            due("read of rain " + amount, Checks.readAll(y, "r" + amount), 12 * amount);
        }
        StringBuilder days = new StringBuilder();
        for (int day = 0; day < 60; day++) days.append('d');
        due("read of 60 days", Checks.readAll(x, days.toString()), 72);
        due("days", x.count(4), 61);
        due("undo of one reading", x.undo(), 3);
        due("days", x.count(4), 1);
        due("the pad stays empty", x.count(14), 0);
    }

    static void promise10ReadErrors() {
        PuddleMinistries x = new PuddleMinistries();
        for (String text : new String[] {"r", "r9r", "x", "r0", "9", "r99", "sdf1", "rs", "R9", "r9S"}) {
            due("read of " + text, Checks.readAll(x, text), BAD_TEXT);
            due("the pad stays", x.wipe(), text.length());
        }
        due("no change", x.count(15), 0);
        due("no water", x.count(5), 0);
        due("no day", x.count(4), 0);
    }
}
