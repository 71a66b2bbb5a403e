/** Promises 11 to 19: the boundary cases of the questions. */
public final class QuestionEdgesTest {
    private static final int NO_SUCH = -1, BAD_VALUE = -2, NONE = -6;
    private static final int MAX = Integer.MAX_VALUE, MIN = Integer.MIN_VALUE;

    public static void main(String[] args) throws Exception {
        Checks.run(QuestionEdgesTest.class);
    }

    private static void due(String call, long got, long want) {
        Checks.due(call, got, want);
    }

    // ---- puddle

    static void promise11FirstWhatIsTheBrim() {
        PuddleMinistries x = Streets.holding(7);
        x.brim(0, 33);
        due("puddle 0, 0", x.puddle(0, 0), 33);
    }

    static void promise11LastWhatIsThePermits() {
        PuddleMinistries x = new PuddleMinistries();
        due("none", x.puddle(0, 6), 0);
        x.permit(0, 0);
        due("the first walker", x.puddle(0, 6), 1);
        x.permit(5, 0);
        due("the last walker", x.puddle(0, 6), 33);
        for (int walker = 1; walker < 5; walker++) x.permit(walker, 0);
        due("all walkers", x.puddle(0, 6), 63);
        due("of the next one", x.puddle(1, 6), 0);
    }

    static void promise11NoWhatBelow0OrAbove6() {
        PuddleMinistries x = new PuddleMinistries();
        for (int what : new int[] {-1, 7, 32, MIN, MAX}) due("what " + what, x.puddle(0, what), BAD_VALUE);
    }

    static void promise11FirstAndLastPuddle() {
        PuddleMinistries x = Streets.holding(1, 0, 0, 0, 0, 0, 0, 0, 0, 0, 0, 12);
        due("the first", x.puddle(0, 1), 1);
        due("the last", x.puddle(11, 1), 12);
    }

    static void promise11NoSuchPuddle() {
        PuddleMinistries x = new PuddleMinistries();
        for (int puddle : Streets.FAR) due("puddle " + puddle, x.puddle(puddle, 0), NO_SUCH);
    }

    static void promise11DepthIsRoundedDown() {
        PuddleMinistries x = Streets.holding(1, 4, 5, 9, 10, 14, 19, 20, 54, 55, 59, 60);
        int[] depths = {0, 0, 1, 1, 2, 2, 3, 4, 10, 11, 11, 12};
        for (int puddle = 0; puddle < 12; puddle++) due("depth of " + puddle, x.puddle(puddle, 2), depths[puddle]);
    }

    static void promise11DepthOfNoWater() {
        due("depth", new PuddleMinistries().puddle(0, 2), 0);
    }

    static void promise11FrozenOrNot() {
        PuddleMinistries x = Streets.frozen(19, 20);
        due("frozen", x.puddle(0, 3), 1);
        due("not frozen", x.puddle(1, 3), 0);
    }

    static void promise11DucksOrNot() {
        PuddleMinistries x = Streets.withDucks(15, 14);
        due("ducks", x.puddle(0, 4), 1);
        due("no ducks", x.puddle(1, 4), 0);
    }

    static void promise11CrossedByAllWalkers() {
        PuddleMinistries x = new PuddleMinistries();
        due("never", x.puddle(0, 5), 0);
        for (int walker = 0; walker < 6; walker++) x.walk(walker, 0, 0);
        x.walk(0, 0, 0);
        due("by six, by one twice", x.puddle(0, 5), 7);
        due("the next one", x.puddle(1, 5), 0);
    }

    static void promise11PermitThatIsOverIsNotInTheSet() {
        PuddleMinistries x = new PuddleMinistries();
        x.permit(1, 0);
        Streets.pass(x, 11, 2);
        x.permit(2, 0);
        Streets.pass(x, 11, 2);
        due("the last day of one", x.puddle(0, 6), 2 | 4);
        x.pass(11);
        due("one is over", x.puddle(0, 6), 4);
    }

    // ---- walker

    static void promise12FirstWhatIsTheShoes() {
        PuddleMinistries x = new PuddleMinistries();
        x.shoes(0, 3);
        due("walker 0, 0", x.walker(0, 0), 3);
    }

    static void promise12LastWhatIsWhereItMayCross() {
        PuddleMinistries x = Streets.holding(0, 60, 0);
        due("walker 0, 5", x.walker(0, 5), Streets.ALL - 2);
    }

    static void promise12NoWhatBelow0OrAbove5() {
        PuddleMinistries x = new PuddleMinistries();
        for (int what : new int[] {-1, 6, 32, MIN, MAX}) due("what " + what, x.walker(0, what), BAD_VALUE);
    }

    static void promise12FirstAndLastWalker() {
        PuddleMinistries x = new PuddleMinistries();
        x.shoes(0, 1);
        x.shoes(5, 2);
        due("the first", x.walker(0, 0), 1);
        due("the last", x.walker(5, 0), 2);
    }

    static void promise12NoSuchWalker() {
        PuddleMinistries x = new PuddleMinistries();
        for (int walker : Streets.FAR) due("walker " + walker, x.walker(walker, 0), NO_SUCH);
        due("walker 6", x.walker(6, 0), NO_SUCH);
    }

    static void promise12PermitsForNoneAndAll() {
        PuddleMinistries x = new PuddleMinistries();
        due("none", x.walker(5, 4), 0);
        x.permit(5, 0);
        x.permit(5, 11);
        due("the first and the last", x.walker(5, 4), 1 | 1 << 11);
        for (int puddle = 1; puddle < 11; puddle++) x.permit(5, puddle);
        due("all", x.walker(5, 4), Streets.ALL);
        due("of the one before", x.walker(4, 4), 0);
    }

    static void promise12MayCrossAllOrNone() {
        PuddleMinistries x = new PuddleMinistries();
        due("all", x.walker(0, 5), Streets.ALL);
        x.pass(9);
        x.pass(9);
        due("none", x.walker(0, 5), 0);
        x.shoes(0, 1);
        due("all with shoes", x.walker(0, 5), Streets.ALL);
        x.pass(11);
        due("none with ducks", x.walker(0, 5), 0);
    }

    static void promise12PaidAndOwedAreApart() {
        PuddleMinistries x = Streets.holding(5);
        x.walk(0, 0, 0);
        due("owes", x.walker(0, 1), 3);
        due("paid", x.walker(0, 2), 0);
        x.pay(0);
        x.walk(0, 0, 0);
        x.walk(0, 0, 0);
        due("owes", x.walker(0, 1), 6);
        due("paid", x.walker(0, 2), 3);
        due("crossed", x.walker(0, 3), 3);
    }

    // ---- why

    private static void keptOut(int shoes, int most) {
        PuddleMinistries x = Streets.holding(5 * most, 5 * most + 4, 5 * most + 5);
        x.shoes(0, shoes);
        due("just as deep", x.why(0, 0), 0);
        due("nearly too deep", x.why(0, 1), 0);
        due("too deep", x.why(0, 2), 2);
        due("dry", x.why(0, 3), 0);
    }

    static void promise13Shoes0KeepOut1() {
        keptOut(0, 1);
    }

    static void promise13Shoes1KeepOut3() {
        keptOut(1, 3);
    }

    static void promise13Shoes2KeepOut5() {
        keptOut(2, 5);
    }

    static void promise13Shoes3KeepOut7() {
        keptOut(3, 7);
    }

    static void promise13ThinIceFromADepthOf1() {
        PuddleMinistries x = Streets.frozen(4, 5, 19);
        due("water 4", x.why(0, 0), 0);
        due("water 5", x.why(0, 1), 3);
        due("water 19", x.why(0, 2), 3);
        due("dry", x.why(0, 3), 0);
    }

    static void promise13ShoesDoNotHelpOnThinIce() {
        PuddleMinistries x = Streets.frozen(5);
        x.shoes(0, 3);
        due("why", x.why(0, 0), 3);
    }

    static void promise13IceIsNotTooDeep() {
        PuddleMinistries x = Streets.holding(19);
        due("water", x.why(0, 0), 2);
        x.pass(10);
        due("ice", x.why(0, 0), 3);
        x.pass(0);
        due("thawed", x.why(0, 0), 2);
    }

    static void promise13DucksAreNamedBeforeTheDepth() {
        PuddleMinistries x = Streets.withDucks(60);
        due("why", x.why(0, 0), 1);
    }

    static void promise13DucksAreNamedBeforeThinIce() {
        PuddleMinistries x = Streets.withDucks(19);
        x.pass(10);
        due("why", x.why(0, 0), 1);
        x.pass(11);
        due("why without ducks", x.why(0, 0), 3);
    }

    static void promise13DucksOnShallowWater() {
        PuddleMinistries x = Streets.holding(1);
        x.set(2, 1);
        x.pass(11);
        due("why", x.why(0, 0), 1);
    }

    static void promise13PermitHelpsInDeepWater() {
        PuddleMinistries x = Streets.holding(60, 60);
        x.permit(0, 0);
        due("with it", x.why(0, 0), 0);
        due("for another puddle", x.why(0, 1), 2);
        due("of another walker", x.why(1, 0), 2);
    }

    static void promise13PermitHelpsOnThinIce() {
        PuddleMinistries x = Streets.frozen(19, 19);
        x.permit(0, 0);
        due("with it", x.why(0, 0), 0);
        due("for another puddle", x.why(0, 1), 3);
        due("of another walker", x.why(1, 0), 3);
    }

    static void promise13PermitDoesNotHelpAgainstDucks() {
        PuddleMinistries x = Streets.holding(15);
        x.permit(0, 0);
        x.shoes(0, 3);
        due("before", x.why(0, 0), 0);
        x.pass(11);
        due("it holds still", x.holds(0, 0), 4);
        due("why", x.why(0, 0), 1);
    }

    static void promise13FirstAndLastWalkerAndPuddle() {
        PuddleMinistries x = Streets.holding(60, 0, 0, 0, 0, 0, 0, 0, 0, 0, 0, 60);
        due("the first ones", x.why(0, 0), 2);
        due("the last ones", x.why(5, 11), 2);
    }

    static void promise13NoSuchWalkerOrPuddle() {
        PuddleMinistries x = new PuddleMinistries();
        for (int far : Streets.FAR) {
            due("walker " + far, x.why(far, 0), NO_SUCH);
            due("puddle " + far, x.why(0, far), NO_SUCH);
        }
        due("walker 6", x.why(6, 0), NO_SUCH);
    }

    // ---- holds

    static void promise14NoPermit() {
        PuddleMinistries x = new PuddleMinistries();
        for (int puddle = 0; puddle < 12; puddle++) due("holds for " + puddle, x.holds(0, puddle), NONE);
    }

    static void promise14PermitOfOneDay() {
        PuddleMinistries x = new PuddleMinistries();
        x.set(3, 1);
        x.permit(0, 0);
        due("holds", x.holds(0, 0), 1);
        x.pass(11);
        due("over", x.holds(0, 0), NONE);
    }

    static void promise14PermitOfAnotherOne() {
        PuddleMinistries x = new PuddleMinistries();
        x.permit(1, 2);
        due("of the walker before", x.holds(0, 2), NONE);
        due("of the walker behind", x.holds(2, 2), NONE);
        due("for the puddle before", x.holds(1, 1), NONE);
        due("for the puddle behind", x.holds(1, 3), NONE);
        due("the other way round", x.holds(2, 1), NONE);
    }

    static void promise14FirstAndLastWalkerAndPuddle() {
        PuddleMinistries x = new PuddleMinistries();
        x.permit(0, 0);
        x.set(3, 7);
        x.permit(5, 11);
        due("the first ones", x.holds(0, 0), 5);
        due("the last ones", x.holds(5, 11), 7);
        due("walker 0, puddle 11", x.holds(0, 11), NONE);
        due("walker 5, puddle 0", x.holds(5, 0), NONE);
    }

    static void promise14NoSuchWalkerOrPuddle() {
        PuddleMinistries x = new PuddleMinistries();
        for (int far : Streets.FAR) {
            due("walker " + far, x.holds(far, 0), NO_SUCH);
            due("puddle " + far, x.holds(0, far), NO_SUCH);
        }
        due("walker 6", x.holds(6, 0), NO_SUCH);
    }

    // ---- count

    static void promise15FirstWhatIsTheFirstSetting() {
        PuddleMinistries x = new PuddleMinistries();
        x.set(0, 17);
        due("count 0", x.count(0), 17);
    }

    static void promise15LastWhatIsTheChanges() {
        PuddleMinistries x = new PuddleMinistries();
        due("none", x.count(15), 0);
        for (int change = 1; change <= 7; change++) {
            x.pay(0);
            due("behind " + change, x.count(15), Math.min(change, 6));
        }
    }

    static void promise15NoWhatBelow0OrAbove15() {
        PuddleMinistries x = new PuddleMinistries();
        for (int what : new int[] {-1, 16, 32, MIN, MAX}) due("count " + what, x.count(what), BAD_VALUE);
    }

    static void promise15SetsOfAllAndNone() {
        PuddleMinistries x = new PuddleMinistries();
        due("no ice", x.count(9), 0);
        x.pass(10);
        due("all ice", x.count(9), Streets.ALL);
        x.pass(0);
        x.set(2, 1);
        x.pass(1);
        due("no ducks", x.count(10), 0);
        x.pass(11);
        due("all ducks", x.count(10), Streets.ALL);
    }

    static void promise15EveryPermitOfEveryWalker() {
        PuddleMinistries x = new PuddleMinistries();
        for (int walker = 0; walker < 6; walker++) {
            for (int puddle = 0; puddle < 12; puddle++) x.permit(walker, puddle);
        }
        due("permits", x.count(11), 72);
        Streets.pass(x, 11, 4);
        due("on their last day", x.count(11), 72);
        x.pass(11);
        due("over", x.count(11), 0);
    }

    static void promise15OwedAndPaidByAllWalkers() {
        PuddleMinistries x = Streets.holding(5);
        for (int walker = 0; walker < 6; walker++) x.walk(walker, 0, 0);
        due("owed", x.count(12), 18);
        due("paid", x.count(13), 0);
        for (int walker = 0; walker < 6; walker++) x.pay(walker);
        due("owed", x.count(12), 0);
        due("paid", x.count(13), 18);
    }

    static void promise15LengthOfAnEmptyAndAFullPad() {
        PuddleMinistries x = new PuddleMinistries();
        due("empty", x.count(14), 0);
        Checks.putAll(x, "s".repeat(60));
        due("full", x.count(14), 60);
    }

    static void promise15AllWaterThatFellIsSomewhere() {
        PuddleMinistries x = new PuddleMinistries();
        for (int hour = 0; hour < 60; hour++) {
            x.pass(hour * 7 % 12);
            if (hour % 9 == 0) x.brim(hour % 12, 1 + hour);
            if (hour % 11 == 0) x.drain(hour % 12);
            due("water, dried, drained", x.count(5) + x.count(7) + x.count(8), x.count(6));
        }
    }

    // ---- cost

    static void promise16FromAndToTheSame() {
        PuddleMinistries x = Streets.holding(0, 5, 10);
        for (int way = 0; way < 2; way++) {
            due("dry", x.cost(0, 0, 0, way), 0);
            due("depth 1", x.cost(0, 1, 1, way), 3);
            due("too deep", x.cost(0, 2, 2, way), 0);
        }
    }

    static void promise16UpAndDown() {
        PuddleMinistries x = Streets.holding(9, 5, 35, 9);
        x.shoes(0, 3);
        for (int way = 0; way < 2; way++) {
            due("up", x.cost(0, 1, 3, way), 3 + 21 + 3);
            due("down", x.cost(0, 3, 1, way), 3 + 21 + 3);
            due("all up", x.cost(0, 0, 11, way), 30);
            due("all down", x.cost(0, 11, 0, way), 30);
        }
    }

    static void promise16FirstIsNotAllowed() {
        PuddleMinistries x = Streets.holding(9, 60, 9);
        for (int way = 0; way < 2; way++) {
            due("up", x.cost(0, 1, 2, way), 0);
            due("down", x.cost(0, 1, 0, way), 0);
        }
    }

    static void promise16OneInBetweenIsNotAllowed() {
        PuddleMinistries x = Streets.holding(9, 60, 9, 9);
        for (int way = 0; way < 2; way++) {
            due("up", x.cost(0, 0, 3, way), 3);
            due("down", x.cost(0, 3, 0, way), 6);
        }
    }

    static void promise16LastIsNotAllowed() {
        PuddleMinistries x = Streets.holding(9, 9, 60);
        for (int way = 0; way < 2; way++) due("up", x.cost(0, 0, 2, way), 6);
    }

    static void promise16IceCostsNothing() {
        PuddleMinistries x = Streets.frozen(19, 20, 19);
        x.shoes(0, 3);
        x.permit(0, 0);
        for (int way = 0; way < 2; way++) {
            due("over ice and water, to ice", x.cost(0, 0, 2, way), 12);
            due("over ice", x.cost(0, 0, 0, way), 0);
        }
    }

    static void promise16DutyOf0And20() {
        PuddleMinistries x = Streets.holding(60);
        x.permit(0, 0);
        x.set(0, 0);
        for (int way = 0; way < 2; way++) due("0", x.cost(0, 0, 0, way), 0);
        x.set(0, 20);
        for (int way = 0; way < 2; way++) due("20", x.cost(0, 0, 0, way), 240);
    }

    static void promise16OldDebtsAreNotInIt() {
        PuddleMinistries x = Streets.holding(5);
        x.walk(0, 0, 0);
        for (int way = 0; way < 2; way++) due("cost", x.cost(0, 0, 0, way), 3);
    }

    static void promise16NoWayBelow0OrAbove1() {
        PuddleMinistries x = new PuddleMinistries();
        for (int way : new int[] {-1, 2, 32, MIN, MAX}) due("way " + way, x.cost(0, 0, 0, way), BAD_VALUE);
    }

    static void promise16NoSuchWalkerOrPuddle() {
        PuddleMinistries x = new PuddleMinistries();
        for (int far : Streets.FAR) {
            for (int way = 0; way < 2; way++) {
                due("walker " + far, x.cost(far, 0, 0, way), NO_SUCH);
                due("from " + far, x.cost(0, far, 0, way), NO_SUCH);
                due("to " + far, x.cost(0, 0, far, way), NO_SUCH);
            }
        }
        due("walker 6", x.cost(6, 0, 0, 0), NO_SUCH);
    }

    static void promise16EachWalkCostsWhatBothWaysTell() {
        for (int from = 0; from < 12; from++) {
            PuddleMinistries x = Streets.holding(9, 4, 30, 35, 19, 60, 20, 0, 25, 39, 40, 5);
            x.pass(10);
            x.shoes(1, 3);
            x.permit(1, 5);
            x.permit(1, 4);
            int owed = 0;
            for (int to = 0; to < 12; to++) {
                int told = x.cost(1, from, to, 0);
                due("by the other way from " + from + " to " + to, x.cost(1, from, to, 1), told);
                x.walk(1, from, to);
                due("by the walk from " + from + " to " + to, x.walker(1, 1) - owed, told);
                owed += told;
            }
        }
    }

    // ---- untilDry

    static void promise17NoWater() {
        due("untilDry", new PuddleMinistries().untilDry(0), 0);
    }

    static void promise17NoWaterAndSunOf0() {
        PuddleMinistries x = new PuddleMinistries();
        x.set(1, 0);
        due("untilDry", x.untilDry(0), 0);
    }

    static void promise17NoWaterAndIce() {
        PuddleMinistries x = new PuddleMinistries();
        x.pass(10);
        due("untilDry", x.untilDry(0), 0);
        x.set(1, 0);
        due("untilDry with SUN 0", x.untilDry(0), 0);
    }

    static void promise17SunOf0() {
        PuddleMinistries x = Streets.holding(1, 60);
        x.set(1, 0);
        due("little water", x.untilDry(0), NONE);
        due("much water", x.untilDry(1), NONE);
    }

    static void promise17SunOf0AndIce() {
        PuddleMinistries x = Streets.frozen(1);
        x.set(1, 0);
        due("untilDry", x.untilDry(0), NONE);
    }

    static void promise17JustSunOneLessAndOneMore() {
        PuddleMinistries x = Streets.holding(7, 6, 8, 14, 15);
        x.set(1, 7);
        due("just SUN", x.untilDry(0), 1);
        due("one less", x.untilDry(1), 1);
        due("one more", x.untilDry(2), 2);
        due("twice SUN", x.untilDry(3), 2);
        due("twice SUN and one", x.untilDry(4), 3);
    }

    static void promise17FrozenPuddleTakesOneMore() {
        PuddleMinistries x = Streets.frozen(2, 3, 19);
        due("just SUN", x.untilDry(0), 2);
        due("one more", x.untilDry(1), 3);
        due("19", x.untilDry(2), 11);
        x.set(1, 20);
        due("less than SUN", x.untilDry(2), 2);
    }

    static void promise17LongestAndShortest() {
        PuddleMinistries x = Streets.holding(60, 20, 1);
        x.set(1, 1);
        due("60 by 1", x.untilDry(0), 60);
        x.set(1, 20);
        due("60 by 20", x.untilDry(0), 3);
        due("20 by 20", x.untilDry(1), 1);
        due("1 by 20", x.untilDry(2), 1);
    }

    static void promise17SunTakesAsLongAsIsTold() {
        PuddleMinistries x = Streets.frozen(19, 20, 59, 60, 1);
        x.set(1, 3);
        int[] told = new int[12];
        for (int puddle = 0; puddle < 12; puddle++) told[puddle] = x.untilDry(puddle);
        for (int hour = 0; hour <= 21; hour++) {
            for (int puddle = 0; puddle < 12; puddle++) {
                due("dry at " + hour, x.puddle(puddle, 1) == 0 ? 1 : 0, hour >= told[puddle] ? 1 : 0);
            }
            x.pass(0);
        }
    }

    static void promise17FirstAndLastPuddle() {
        PuddleMinistries x = Streets.holding(2, 0, 0, 0, 0, 0, 0, 0, 0, 0, 0, 4);
        due("the first", x.untilDry(0), 1);
        due("the last", x.untilDry(11), 2);
    }

    static void promise17NoSuchPuddle() {
        PuddleMinistries x = new PuddleMinistries();
        for (int puddle : Streets.FAR) due("untilDry " + puddle, x.untilDry(puddle), NO_SUCH);
        x.set(1, 0);
        due("no such one with SUN 0", x.untilDry(12), NO_SUCH);
    }

    // ---- leastShoes

    private static void leastFor(int water, int least) {
        PuddleMinistries x = Streets.holding(0, 0, 0, 0, 0, water);
        due("leastShoes in " + water, x.leastShoes(0), least);
    }

    static void promise18JustKeptOutByEachShoes() {
        leastFor(9, 0);
        leastFor(19, 1);
        leastFor(29, 2);
        leastFor(39, 3);
    }

    static void promise18JustTooDeepForEachShoes() {
        leastFor(10, 1);
        leastFor(20, 2);
        leastFor(30, 3);
    }

    static void promise18NoShoesAreEnoughForTheDepth() {
        leastFor(40, NONE);
        leastFor(60, NONE);
    }

    static void promise18NoShoesAreEnoughForThinIce() {
        PuddleMinistries x = Streets.frozen(5);
        due("leastShoes", x.leastShoes(0), NONE);
    }

    static void promise18NoShoesAreEnoughForDucks() {
        PuddleMinistries x = Streets.withDucks(15);
        x.permit(1, 1);
        due("leastShoes", x.leastShoes(0), NONE);
    }

    static void promise18NoneOnADryOrFrozenDryStreet() {
        PuddleMinistries x = new PuddleMinistries();
        due("dry", x.leastShoes(0), 0);
        x.pass(10);
        due("dry ice", x.leastShoes(0), 0);
    }

    static void promise18WithItsPermits() {
        PuddleMinistries x = Streets.frozen(60, 19, 25);
        due("without", x.leastShoes(0), NONE);
        x.permit(0, 0);
        due("with one of two", x.leastShoes(0), NONE);
        x.permit(0, 1);
        due("with both", x.leastShoes(0), 2);
        x.permit(0, 2);
        due("with all", x.leastShoes(0), 0);
        due("of another walker", x.leastShoes(1), NONE);
    }

    static void promise18DeepestPuddleAtEachPlace() {
        for (int place = 0; place < 12; place++) {
            int[] waters = new int[12];
            waters[place] = 39;
            due("deepest at " + place, Streets.holding(waters).leastShoes(0), 3);
            waters[place] = 40;
            due("too deep at " + place, Streets.holding(waters).leastShoes(0), NONE);
        }
    }

    static void promise18ShoesThatItWearsDoNotMatter() {
        PuddleMinistries x = Streets.holding(15);
        for (int shoes = 0; shoes < 4; shoes++) {
            x.shoes(0, shoes);
            due("leastShoes", x.leastShoes(0), 1);
            due("it wears them still", x.walker(0, 0), shoes);
        }
    }

    static void promise18FirstAndLastWalker() {
        PuddleMinistries x = Streets.holding(60);
        x.permit(5, 0);
        due("the first", x.leastShoes(0), NONE);
        due("the last", x.leastShoes(5), 0);
    }

    static void promise18NoSuchWalker() {
        PuddleMinistries x = Streets.holding(60);
        for (int walker : Streets.FAR) due("leastShoes " + walker, x.leastShoes(walker), NO_SUCH);
        due("leastShoes 6", x.leastShoes(6), NO_SUCH);
    }

    // ---- longestWalk

    private static void dueLongest(PuddleMinistries x, int length, int first) {
        due("how many", x.longestWalk(0, 0), length);
        due("the first one", x.longestWalk(0, 1), first);
    }

    static void promise19NoPuddleIsAllowed() {
        PuddleMinistries x = new PuddleMinistries();
        x.pass(5);
        x.pass(10);
        dueLongest(x, 0, NONE);
    }

    static void promise19AllPuddlesAreAllowed() {
        dueLongest(new PuddleMinistries(), 12, 0);
    }

    static void promise19OnePuddleIsAllowed() {
        for (int place = 0; place < 12; place++) {
            int[] waters = {60, 60, 60, 60, 60, 60, 60, 60, 60, 60, 60, 60};
            waters[place] = 0;
            dueLongest(Streets.holding(waters), 1, place);
        }
    }

    static void promise19AllButOneAreAllowed() {
        for (int place = 0; place < 12; place++) {
            int[] waters = new int[12];
            waters[place] = 60;
            boolean behind = place < 6;
            dueLongest(Streets.holding(waters), behind ? 11 - place : place, behind ? place + 1 : 0);
        }
    }

    static void promise19TwoRowsAsLong() {
        dueLongest(Streets.holding(60, 0, 0, 60, 60, 0, 0, 60, 60, 60, 60, 60), 2, 1);
        dueLongest(Streets.holding(0, 0, 0, 0, 60, 60, 60, 60, 0, 0, 0, 0), 4, 0);
    }

    static void promise19ManyRowsOfOne() {
        dueLongest(Streets.holding(60, 0, 60, 0, 60, 0, 60, 0, 60, 0, 60, 0), 1, 1);
        dueLongest(Streets.holding(0, 60, 0, 60, 0, 60, 0, 60, 0, 60, 0, 60), 1, 0);
    }

    static void promise19LongerRowBehindOrBefore() {
        dueLongest(Streets.holding(0, 60, 0, 0, 60, 60, 60, 60, 60, 0, 0, 0), 3, 9);
        dueLongest(Streets.holding(0, 0, 0, 60, 60, 60, 60, 60, 0, 60, 0, 0), 3, 0);
    }

    static void promise19RowIsNotBentFromTheEndToTheStart() {
        dueLongest(Streets.holding(0, 60, 60, 0, 0, 60, 60, 60, 60, 60, 60, 0), 2, 3);
    }

    static void promise19NoWhatBelow0OrAbove1() {
        PuddleMinistries x = new PuddleMinistries();
        for (int what : new int[] {-1, 2, 32, MIN, MAX}) due("what " + what, x.longestWalk(0, what), BAD_VALUE);
        PuddleMinistries y = new PuddleMinistries();
        y.pass(5);
        y.pass(10);
        due("what 2 without a row", y.longestWalk(0, 2), BAD_VALUE);
    }

    static void promise19FirstAndLastWalker() {
        PuddleMinistries x = Streets.holding(60);
        x.permit(5, 0);
        due("the first", x.longestWalk(0, 0), 11);
        due("the last", x.longestWalk(5, 0), 12);
    }

    static void promise19NoSuchWalker() {
        PuddleMinistries x = new PuddleMinistries();
        for (int walker : Streets.FAR) {
            due("longestWalk of " + walker, x.longestWalk(walker, 0), NO_SUCH);
            due("first one of " + walker, x.longestWalk(walker, 1), NO_SUCH);
        }
        due("longestWalk of 6", x.longestWalk(6, 0), NO_SUCH);
    }
}
