/** Promises 1 to 8: the boundary cases of a new object, and of the changes other than weather. */
public final class ChangeEdgesTest {
    private static final int NO_SUCH = -1, BAD_VALUE = -2, NOT_POSSIBLE = -5, NONE = -6;
    private static final int MAX = Integer.MAX_VALUE, MIN = Integer.MIN_VALUE;

    public static void main(String[] args) throws Exception {
        Checks.run(ChangeEdgesTest.class);
    }

    private static void due(String call, long got, long want) {
        Checks.due(call, got, want);
    }

    // ---- a new object

    static void promise01TheStreetIsDry() {
        PuddleMinistries x = new PuddleMinistries();
        for (int puddle = 0; puddle < 12; puddle++) due("water of " + puddle, x.puddle(puddle, 1), 0);
        for (int what = 5; what <= 8; what++) due("count " + what, x.count(what), 0);
    }

    static void promise01TheDayIsZero() {
        due("days", new PuddleMinistries().count(4), 0);
    }

    static void promise01FirstSettings() {
        PuddleMinistries x = new PuddleMinistries();
        due("DUTY", x.count(0), 3);
        due("SUN", x.count(1), 2);
        due("DUCKS", x.count(2), 15);
        due("KEEPS", x.count(3), 5);
    }

    static void promise01FirstBrims() {
        PuddleMinistries x = new PuddleMinistries();
        for (int puddle = 0; puddle < 12; puddle++) due("brim of " + puddle, x.puddle(puddle, 0), 20);
    }

    static void promise01NeitherIceNorDucks() {
        PuddleMinistries x = new PuddleMinistries();
        due("frozen", x.count(9), 0);
        due("ducks", x.count(10), 0);
    }

    static void promise01NeitherShoesNorPermitsNorCoins() {
        PuddleMinistries x = new PuddleMinistries();
        for (int walker = 0; walker < 6; walker++) {
            for (int what = 0; what < 5; what++) due("walker " + walker + ", " + what, x.walker(walker, what), 0);
        }
        for (int what = 11; what <= 13; what++) due("count " + what, x.count(what), 0);
    }

    static void promise01NothingToReadUndoOrRestore() {
        PuddleMinistries x = new PuddleMinistries();
        due("pad", x.count(14), 0);
        due("changes", x.count(15), 0);
        due("undo", x.undo(), NOT_POSSIBLE);
        due("restore 0", x.restore(0), NOT_POSSIBLE);
        due("restore 1", x.restore(1), NOT_POSSIBLE);
    }

    static void promise01OneObjectDoesNotTouchAnother() {
        PuddleMinistries x = new PuddleMinistries(), y = new PuddleMinistries();
        x.set(0, 20);
        x.brim(0, 5);
        x.pass(9);
        x.put('s');
        x.save(0);
        due("duty", y.count(0), 3);
        due("brim", y.puddle(0, 0), 20);
        due("water", y.count(5), 0);
        due("pad", y.count(14), 0);
        due("undo", y.undo(), NOT_POSSIBLE);
        due("restore", y.restore(0), NOT_POSSIBLE);
        due("duty of one made later", new PuddleMinistries().count(0), 3);
    }

    // ---- set

    private static void range(int setting, int first, int least, int most) {
        PuddleMinistries x = new PuddleMinistries();
        due("one below the least", x.set(setting, least - 1), BAD_VALUE);
        due("one above the most", x.set(setting, most + 1), BAD_VALUE);
        due("far below", x.set(setting, MIN), BAD_VALUE);
        due("far above", x.set(setting, MAX), BAD_VALUE);
        due("the first value stands", x.count(setting), first);
        due("the least", x.set(setting, least), first);
        due("the least stands", x.count(setting), least);
        due("the most", x.set(setting, most), least);
        due("the most stands", x.count(setting), most);
    }

    static void promise02DutyIs0To20() {
        range(0, 3, 0, 20);
    }

    static void promise02SunIs0To20() {
        range(1, 2, 0, 20);
    }

    static void promise02DucksIs1To99() {
        range(2, 15, 1, 99);
    }

    static void promise02KeepsIs1To30() {
        range(3, 5, 1, 30);
    }

    static void promise02NoSettingBelow0() {
        PuddleMinistries x = new PuddleMinistries();
        for (int setting : new int[] {-1, -4, MIN}) due("set " + setting, x.set(setting, 5), BAD_VALUE);
    }

    static void promise02NoSettingAbove3() {
        PuddleMinistries x = new PuddleMinistries();
        for (int setting : new int[] {4, 32, MAX}) due("set " + setting, x.set(setting, 5), BAD_VALUE);
    }

    static void promise02SameValueAgain() {
        PuddleMinistries x = new PuddleMinistries();
        due("set", x.set(0, 3), 3);
        due("set", x.set(0, 3), 3);
        due("both are changes", x.count(15), 2);
    }

    static void promise02OtherSettingsStay() {
        int[] first = {3, 2, 15, 5};
        for (int setting = 0; setting < 4; setting++) {
            PuddleMinistries x = new PuddleMinistries();
            x.set(setting, 9);
            for (int other = 0; other < 4; other++) {
                due("setting " + other, x.count(other), other == setting ? 9 : first[other]);
            }
        }
    }

    // ---- brim

    static void promise03BrimOf1() {
        PuddleMinistries x = new PuddleMinistries();
        due("brim", x.brim(0, 1), 20);
        due("it stands", x.puddle(0, 0), 1);
        x.pass(3);
        due("it holds 1", x.puddle(0, 1), 1);
        due("the rest runs down", x.puddle(1, 1), 5);
    }

    static void promise03BrimOf60() {
        PuddleMinistries x = new PuddleMinistries();
        due("brim", x.brim(0, 60), 20);
        due("it stands", x.puddle(0, 0), 60);
        Streets.pass(x, 9, 7);
        due("it holds 60", x.puddle(0, 1), 60);
    }

    static void promise03BrimOf0IsRefused() {
        PuddleMinistries x = new PuddleMinistries();
        for (int brim : new int[] {0, -1, MIN}) due("brim " + brim, x.brim(0, brim), BAD_VALUE);
        due("the brim stands", x.puddle(0, 0), 20);
    }

    static void promise03BrimOf61IsRefused() {
        PuddleMinistries x = new PuddleMinistries();
        for (int brim : new int[] {61, 256, MAX}) due("brim " + brim, x.brim(0, brim), BAD_VALUE);
        due("the brim stands", x.puddle(0, 0), 20);
    }

    static void promise03FirstAndLastPuddle() {
        PuddleMinistries x = new PuddleMinistries();
        due("the first", x.brim(0, 30), 20);
        due("the last", x.brim(11, 31), 20);
        due("the first one's", x.puddle(0, 0), 30);
        due("the last one's", x.puddle(11, 0), 31);
        due("its neighbour's", x.puddle(10, 0), 20);
    }

    static void promise03NoSuchPuddle() {
        PuddleMinistries x = new PuddleMinistries();
        for (int puddle : Streets.FAR) due("brim of " + puddle, x.brim(puddle, 20), NO_SUCH);
    }

    static void promise03BrimJustAtTheWater() {
        PuddleMinistries x = Streets.holding(30);
        int drained = x.count(8);
        due("brim", x.brim(0, 30), 60);
        due("water", x.puddle(0, 1), 30);
        due("drained", x.count(8) - drained, 0);
    }

    static void promise03BrimOneBelowTheWater() {
        PuddleMinistries x = Streets.holding(30);
        int drained = x.count(8);
        due("brim", x.brim(0, 29), 60);
        due("water", x.puddle(0, 1), 29);
        due("drained", x.count(8) - drained, 1);
    }

    static void promise03BrimOneAboveTheWater() {
        PuddleMinistries x = Streets.holding(30);
        int drained = x.count(8);
        due("brim", x.brim(0, 31), 60);
        due("water", x.puddle(0, 1), 30);
        due("drained", x.count(8) - drained, 0);
    }

    static void promise03WaterAboveItDoesNotRunOn() {
        PuddleMinistries x = Streets.holding(60, 10);
        int drained = x.count(8), dried = x.count(7), fell = x.count(6);
        due("brim", x.brim(0, 1), 60);
        due("the next one's water", x.puddle(1, 1), 10);
        due("drained", x.count(8) - drained, 59);
        due("dried", x.count(7) - dried, 0);
        due("fell", x.count(6) - fell, 0);
    }

    static void promise03BrimOfAFrozenPuddle() {
        PuddleMinistries x = Streets.frozen(19);
        int drained = x.count(8);
        due("brim", x.brim(0, 4), 60);
        due("water", x.puddle(0, 1), 4);
        due("frozen still", x.puddle(0, 3), 1);
        due("drained", x.count(8) - drained, 15);
    }

    static void promise03DucksStayUntilTheDayEnds() {
        PuddleMinistries x = Streets.withDucks(15);
        x.brim(0, 14);
        due("ducks in the day", x.puddle(0, 4), 1);
        x.pass(11);
        due("ducks behind the day", x.puddle(0, 4), 0);
    }

    static void promise03SameBrimAgain() {
        PuddleMinistries x = new PuddleMinistries();
        due("brim", x.brim(5, 20), 20);
        due("it is a change", x.count(15), 1);
    }

    // ---- drain

    static void promise04PuddleWithDucks() {
        PuddleMinistries x = Streets.withDucks(15, 14);
        due("with ducks", x.drain(0), NOT_POSSIBLE);
        due("its water stays", x.puddle(0, 1), 15);
        due("without ducks", x.drain(1), 14);
    }

    static void promise04DucksOnLittleWater() {
        PuddleMinistries x = Streets.withDucks(15);
        x.brim(0, 1);
        due("ducks have not gone yet", x.drain(0), NOT_POSSIBLE);
        due("its water stays", x.puddle(0, 1), 1);
    }

    static void promise04DucksOnIce() {
        PuddleMinistries x = Streets.withDucks(19);
        x.pass(10);
        due("ducks have not gone yet", x.drain(0), NOT_POSSIBLE);
        due("it stays frozen", x.puddle(0, 3), 1);
        x.pass(11);
        due("they are gone", x.drain(0), 19);
    }

    static void promise04PuddleWithoutWater() {
        PuddleMinistries x = new PuddleMinistries();
        due("drain", x.drain(0), 0);
        due("drained", x.count(8), 0);
        due("it is a change", x.count(15), 1);
    }

    static void promise04FrozenPuddle() {
        PuddleMinistries x = Streets.frozen(19);
        int drained = x.count(8);
        due("drain", x.drain(0), 19);
        due("water", x.puddle(0, 1), 0);
        due("not frozen", x.puddle(0, 3), 0);
        due("drained", x.count(8) - drained, 19);
        due("dried", x.count(7), 0);
    }

    static void promise04FrozenPuddleWithoutWater() {
        PuddleMinistries x = new PuddleMinistries();
        x.pass(10);
        due("drain", x.drain(5), 0);
        due("the others are frozen still", x.count(9), Streets.ALL - 32);
    }

    static void promise04FullestPuddle() {
        PuddleMinistries x = Streets.holding(60);
        due("drain", x.drain(0), 60);
        due("drain again", x.drain(0), 0);
    }

    static void promise04FirstAndLastPuddle() {
        PuddleMinistries x = new PuddleMinistries();
        x.pass(7);
        due("the first", x.drain(0), 7);
        due("the last", x.drain(11), 7);
        due("the others stay", x.count(5), 70);
    }

    static void promise04NoSuchPuddle() {
        PuddleMinistries x = new PuddleMinistries();
        for (int puddle : Streets.FAR) due("drain " + puddle, x.drain(puddle), NO_SUCH);
    }

    static void promise04WaterDoesNotRunOn() {
        PuddleMinistries x = Streets.holding(60, 60);
        x.drain(0);
        due("the next one's water", x.puddle(1, 1), 60);
        due("all water", x.count(5), 60);
    }

    // ---- shoes

    static void promise05ShoesOf0And3() {
        PuddleMinistries x = new PuddleMinistries();
        due("3", x.shoes(0, 3), 0);
        due("3 stands", x.walker(0, 0), 3);
        due("0", x.shoes(0, 0), 3);
        due("0 stands", x.walker(0, 0), 0);
    }

    static void promise05ShoesBelow0AreRefused() {
        PuddleMinistries x = new PuddleMinistries();
        for (int shoes : new int[] {-1, -6, MIN}) due("shoes " + shoes, x.shoes(0, shoes), BAD_VALUE);
        due("shoes", x.walker(0, 0), 0);
    }

    static void promise05ShoesAbove3AreRefused() {
        PuddleMinistries x = new PuddleMinistries();
        for (int shoes : new int[] {4, 7, MAX}) due("shoes " + shoes, x.shoes(0, shoes), BAD_VALUE);
        due("shoes", x.walker(0, 0), 0);
    }

    static void promise05FirstAndLastWalker() {
        PuddleMinistries x = new PuddleMinistries();
        due("the first", x.shoes(0, 1), 0);
        due("the last", x.shoes(5, 2), 0);
        int[] want = {1, 0, 0, 0, 0, 2};
        for (int walker = 0; walker < 6; walker++) due("shoes of " + walker, x.walker(walker, 0), want[walker]);
    }

    static void promise05NoSuchWalker() {
        PuddleMinistries x = new PuddleMinistries();
        for (int walker : Streets.FAR) due("shoes of " + walker, x.shoes(walker, 1), NO_SUCH);
        due("shoes of 6", x.shoes(6, 1), NO_SUCH);
    }

    static void promise05SameShoesAgain() {
        PuddleMinistries x = new PuddleMinistries();
        due("shoes", x.shoes(0, 0), 0);
        due("it is a change", x.count(15), 1);
    }

    // ---- permit

    static void promise06FirstOneAndAllTwelve() {
        PuddleMinistries x = new PuddleMinistries();
        for (int puddle = 0; puddle < 12; puddle++) due("permit for " + puddle, x.permit(0, puddle), puddle + 1);
        due("in place of one of twelve", x.permit(0, 11), 12);
        due("they are the walker's alone", x.permit(5, 0), 1);
        due("all of them", x.count(11), 13);
    }

    static void promise06InPlaceOfOneThatIsNearlyOver() {
        PuddleMinistries x = new PuddleMinistries();
        x.permit(0, 0);
        Streets.pass(x, 11, 4);
        due("a day is left", x.holds(0, 0), 1);
        due("permit", x.permit(0, 0), 1);
        due("it holds anew, and no day more", x.holds(0, 0), 5);
    }

    static void promise06InPlaceOfALongerOne() {
        PuddleMinistries x = new PuddleMinistries();
        x.set(3, 30);
        x.permit(0, 0);
        x.set(3, 1);
        due("permit", x.permit(0, 0), 1);
        due("it holds less", x.holds(0, 0), 1);
    }

    static void promise06InPlaceOfOneThatIsOver() {
        PuddleMinistries x = new PuddleMinistries();
        x.set(3, 1);
        x.permit(0, 0);
        x.pass(11);
        due("none is left", x.count(11), 0);
        due("permit", x.permit(0, 0), 1);
        due("it holds", x.holds(0, 0), 1);
    }

    static void promise06KeepsOf1IsTodayAlone() {
        PuddleMinistries x = Streets.holding(10);
        x.set(3, 1);
        x.permit(0, 0);
        due("today", x.why(0, 0), 0);
        x.pass(11);
        due("tomorrow", x.why(0, 0), 2);
    }

    static void promise06KeepsOf30() {
        PuddleMinistries x = new PuddleMinistries();
        x.set(3, 30);
        x.permit(0, 0);
        due("at first", x.holds(0, 0), 30);
        Streets.pass(x, 11, 29);
        due("the last day", x.holds(0, 0), 1);
        x.pass(11);
        due("over", x.holds(0, 0), NONE);
    }

    static void promise06LaterKeepsChangesNoPermit() {
        PuddleMinistries x = new PuddleMinistries();
        x.permit(0, 0);
        x.set(3, 1);
        due("holds", x.holds(0, 0), 5);
        x.pass(11);
        due("holds", x.holds(0, 0), 4);
    }

    static void promise06LastDay() {
        PuddleMinistries x = Streets.holding(10);
        x.permit(0, 0);
        Streets.pass(x, 11, 4);
        due("a day is left", x.holds(0, 0), 1);
        due("it counts", x.count(11), 1);
        due("it may cross", x.why(0, 0), 0);
        x.pass(11);
        due("no day is left", x.holds(0, 0), NONE);
        due("it counts no more", x.count(11), 0);
        due("it may not cross", x.why(0, 0), 2);
    }

    static void promise06NoDayGoesByOnIce() {
        PuddleMinistries x = Streets.frozen(10);
        x.permit(0, 0);
        Streets.pass(x, 11, 9);
        due("on ice", x.holds(0, 0), 5);
        x.pass(0);
        x.pass(11);
        due("thawed", x.holds(0, 0), 4);
    }

    static void promise06NoLastDayGoesByOnIce() {
        PuddleMinistries x = Streets.holding(10);
        x.set(3, 1);
        x.permit(0, 0);
        x.pass(10);
        Streets.pass(x, 11, 3);
        due("on ice", x.holds(0, 0), 1);
        due("it may cross", x.why(0, 0), 0);
        x.pass(0);
        due("thawed in the day", x.holds(0, 0), 1);
        x.pass(11);
        due("over", x.holds(0, 0), NONE);
    }

    static void promise06FrozenWhenTheDayEndsIsWhatCounts() {
        PuddleMinistries x = Streets.frozen(10);
        x.permit(0, 0);
        x.pass(0);
        x.pass(11);
        due("thawed by the evening", x.holds(0, 0), 4);
        x.pass(10);
        x.pass(11);
        due("frozen by the evening", x.holds(0, 0), 4);
    }

    static void promise06IceAtOnePuddleKeepsNoOther() {
        PuddleMinistries x = Streets.frozen(19, 20);
        x.permit(0, 0);
        x.permit(0, 1);
        x.pass(11);
        due("frozen", x.holds(0, 0), 5);
        due("not frozen", x.holds(0, 1), 4);
    }

    static void promise06DaysGoByBelowDucks() {
        PuddleMinistries x = Streets.holding(20);
        x.permit(0, 0);
        Streets.pass(x, 11, 2);
        due("ducks", x.puddle(0, 4), 1);
        due("holds", x.holds(0, 0), 3);
    }

    static void promise06PuddleWithDucks() {
        PuddleMinistries x = Streets.withDucks(15, 14);
        due("with ducks", x.permit(0, 0), NOT_POSSIBLE);
        due("no permit", x.holds(0, 0), NONE);
        due("without ducks", x.permit(0, 1), 1);
    }

    static void promise06DucksCameToAPermit() {
        PuddleMinistries x = Streets.holding(20);
        x.permit(0, 0);
        x.pass(11);
        due("in place of one, with ducks", x.permit(0, 0), NOT_POSSIBLE);
        due("the old one stands", x.holds(0, 0), 4);
        x.set(2, 21);
        x.pass(11);
        due("in place of one, ducks gone", x.permit(0, 0), 1);
        due("holds", x.holds(0, 0), 5);
    }

    static void promise06FrozenOrDryPuddle() {
        PuddleMinistries x = Streets.frozen(19);
        due("frozen", x.permit(0, 0), 1);
        x.drain(1);
        due("dry", x.permit(0, 1), 2);
    }

    static void promise06FirstAndLastWalkerAndPuddle() {
        PuddleMinistries x = new PuddleMinistries();
        due("the first ones", x.permit(0, 0), 1);
        due("the last ones", x.permit(5, 11), 1);
        due("the first walker's", x.walker(0, 4), 1);
        due("the last walker's", x.walker(5, 4), 1 << 11);
    }

    static void promise06NoSuchWalkerOrPuddle() {
        PuddleMinistries x = new PuddleMinistries();
        for (int far : Streets.FAR) {
            due("walker " + far, x.permit(far, 0), NO_SUCH);
            due("puddle " + far, x.permit(0, far), NO_SUCH);
        }
        due("walker 6", x.permit(6, 0), NO_SUCH);
    }

    // ---- walk

    static void promise07FromAndToTheSame() {
        PuddleMinistries x = Streets.holding(9, 9, 9);
        due("walk", x.walk(0, 1, 1), 1);
        due("owes", x.walker(0, 1), 3);
        due("crossed", x.puddle(1, 5), 1);
        due("before", x.puddle(0, 5), 0);
        due("behind", x.puddle(2, 5), 0);
    }

    static void promise07FromAndToTheSameNotAllowed() {
        PuddleMinistries x = Streets.holding(0, 10, 0);
        due("walk", x.walk(0, 1, 1), 0);
        due("owes", x.walker(0, 1), 0);
    }

    static void promise07Up() {
        PuddleMinistries x = Streets.holding(5, 5, 5, 5);
        due("walk", x.walk(0, 1, 2), 2);
        int[] crossed = {0, 1, 1, 0};
        for (int puddle = 0; puddle < 4; puddle++) due("crossed " + puddle, x.puddle(puddle, 5), crossed[puddle]);
    }

    static void promise07Down() {
        PuddleMinistries x = Streets.holding(5, 5, 5, 5);
        due("walk", x.walk(0, 2, 1), 2);
        int[] crossed = {0, 1, 1, 0};
        for (int puddle = 0; puddle < 4; puddle++) due("crossed " + puddle, x.puddle(puddle, 5), crossed[puddle]);
    }

    static void promise07WholeStreetUpAndDown() {
        PuddleMinistries x = new PuddleMinistries();
        due("up", x.walk(0, 0, 11), 12);
        due("down", x.walk(0, 11, 0), 12);
        for (int puddle = 0; puddle < 12; puddle++) due("crossed " + puddle, x.puddle(puddle, 5), 2);
        due("crossed by it", x.walker(0, 3), 24);
    }

    static void promise07FirstIsNotAllowed() {
        PuddleMinistries x = Streets.holding(10, 5, 5, 5);
        due("up", x.walk(0, 0, 3), 0);
        due("owes", x.walker(0, 1), 0);
        due("crossed", x.walker(0, 3), 0);
        due("down to it", x.walk(0, 3, 0), 3);
    }

    static void promise07FirstIsNotAllowedDown() {
        PuddleMinistries x = Streets.holding(5, 5, 10);
        due("down", x.walk(0, 2, 0), 0);
        due("owes", x.walker(0, 1), 0);
        due("crossed", x.count(12), 0);
    }

    static void promise07LastIsNotAllowed() {
        PuddleMinistries x = Streets.holding(5, 5, 10);
        due("up", x.walk(0, 0, 2), 2);
        due("owes", x.walker(0, 1), 6);
        due("not crossed", x.puddle(2, 5), 0);
    }

    static void promise07NoneBehindOneThatIsNotAllowed() {
        PuddleMinistries x = Streets.holding(5, 10, 5, 5);
        due("up", x.walk(0, 0, 3), 1);
        due("owes", x.walker(0, 1), 3);
        due("not crossed", x.puddle(2, 5), 0);
        due("down", x.walk(0, 3, 0), 2);
        due("owes", x.walker(0, 1), 9);
        due("not crossed again", x.puddle(0, 5), 1);
    }

    static void promise07FirstAndLastWalkerAndPuddle() {
        PuddleMinistries x = new PuddleMinistries();
        due("the first", x.walk(0, 0, 0), 1);
        due("the last", x.walk(5, 11, 11), 1);
    }

    static void promise07NoSuchWalkerOrPuddle() {
        PuddleMinistries x = new PuddleMinistries();
        for (int far : Streets.FAR) {
            due("walker " + far, x.walk(far, 0, 0), NO_SUCH);
            due("from " + far, x.walk(0, far, 0), NO_SUCH);
            due("to " + far, x.walk(0, 0, far), NO_SUCH);
        }
        due("walker 6", x.walk(6, 0, 0), NO_SUCH);
        due("to 12 behind one that is not allowed", Streets.holding(60).walk(0, 0, 12), NO_SUCH);
    }

    static void promise07NoDutyBelowADepthOf1() {
        PuddleMinistries x = Streets.holding(4, 5);
        x.walk(0, 0, 0);
        due("water 4", x.walker(0, 1), 0);
        x.walk(0, 1, 1);
        due("water 5", x.walker(0, 1), 3);
    }

    static void promise07NoDutyOnIce() {
        PuddleMinistries x = Streets.frozen(19, 20);
        x.shoes(0, 3);
        x.permit(0, 0);
        due("ice", x.walk(0, 0, 0), 1);
        due("owes", x.walker(0, 1), 0);
        due("water", x.walk(0, 1, 1), 1);
        due("owes", x.walker(0, 1), 12);
    }

    static void promise07DutyOf0() {
        PuddleMinistries x = Streets.holding(9);
        x.set(0, 0);
        due("walk", x.walk(0, 0, 0), 1);
        due("owes", x.walker(0, 1), 0);
        due("crossed", x.walker(0, 3), 1);
    }

    static void promise07DutyOf20AtTheGreatestDepth() {
        PuddleMinistries x = Streets.holding(60);
        x.set(0, 20);
        x.permit(0, 0);
        due("walk", x.walk(0, 0, 0), 1);
        due("owes", x.walker(0, 1), 240);
    }

    static void promise07PermitFreesFromNoDuty() {
        PuddleMinistries x = Streets.holding(5);
        x.permit(0, 0);
        x.walk(0, 0, 0);
        due("owes", x.walker(0, 1), 3);
    }

    static void promise07LaterDutyChangesNoDebt() {
        PuddleMinistries x = Streets.holding(5);
        x.walk(0, 0, 0);
        x.set(0, 20);
        due("owes", x.walker(0, 1), 3);
        x.walk(0, 0, 0);
        due("owes", x.walker(0, 1), 23);
    }

    // ---- pay

    static void promise08NothingOwed() {
        PuddleMinistries x = new PuddleMinistries();
        due("pay", x.pay(0), 0);
        due("paid", x.walker(0, 2), 0);
        due("paid by all", x.count(13), 0);
        due("it is a change", x.count(15), 1);
    }

    static void promise08PayTwice() {
        PuddleMinistries x = Streets.holding(5);
        x.walk(0, 0, 0);
        due("pay", x.pay(0), 3);
        due("owes", x.walker(0, 1), 0);
        due("pay again", x.pay(0), 0);
        due("paid", x.walker(0, 2), 3);
    }

    static void promise08OthersOweStill() {
        PuddleMinistries x = Streets.holding(5);
        x.walk(0, 0, 0);
        x.walk(5, 0, 0);
        due("pay", x.pay(5), 3);
        due("the first one owes", x.walker(0, 1), 3);
        due("the first one paid", x.walker(0, 2), 0);
        due("owed by all", x.count(12), 3);
        due("paid by all", x.count(13), 3);
    }

    static void promise08FirstAndLastWalker() {
        PuddleMinistries x = new PuddleMinistries();
        due("the first", x.pay(0), 0);
        due("the last", x.pay(5), 0);
    }

    static void promise08NoSuchWalker() {
        PuddleMinistries x = new PuddleMinistries();
        for (int walker : Streets.FAR) due("pay of " + walker, x.pay(walker), NO_SUCH);
        due("pay of 6", x.pay(6), NO_SUCH);
    }
}
