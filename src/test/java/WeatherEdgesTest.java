/** Promises 9 and 10: the boundary cases of weather and days, and of weather that is read. */
public final class WeatherEdgesTest {
    private static final int BAD_VALUE = -2, BAD_TEXT = -3, TOO_MANY = -4, NONE = -6;
    private static final int MAX = Integer.MAX_VALUE, MIN = Integer.MIN_VALUE;
    private static final int SUN = 0, FROST = 10, DAY = 11;

    public static void main(String[] args) throws Exception {
        Checks.run(WeatherEdgesTest.class);
    }

    private static void due(String call, long got, long want) {
        Checks.due(call, got, want);
    }

    private static void dueWaters(PuddleMinistries x, int... waters) {
        for (int puddle = 0; puddle < waters.length; puddle++) due("water of " + puddle, x.puddle(puddle, 1), waters[puddle]);
    }

    // ---- which weather

    static void promise09WeatherBelow0() {
        PuddleMinistries x = new PuddleMinistries();
        for (int weather : new int[] {-1, -12, MIN}) due("pass " + weather, x.pass(weather), BAD_VALUE);
    }

    static void promise09WeatherAbove11() {
        PuddleMinistries x = new PuddleMinistries();
        for (int weather : new int[] {12, 256, MAX}) due("pass " + weather, x.pass(weather), BAD_VALUE);
    }

    static void promise09Weather0IsSunAlone() {
        PuddleMinistries x = Streets.holding(20);
        due("pass", x.pass(0), 18);
        due("dried", x.count(7), 2);
        due("frozen", x.count(9), 0);
        due("days", x.count(4), 0);
    }

    static void promise09Weather1IsRain() {
        PuddleMinistries x = new PuddleMinistries();
        due("pass", x.pass(1), 12);
        due("fell", x.count(6), 12);
        dueWaters(x, 1, 1, 1, 1, 1, 1, 1, 1, 1, 1, 1, 1);
    }

    static void promise09Weather9IsRain() {
        PuddleMinistries x = new PuddleMinistries();
        due("pass", x.pass(9), 108);
        due("fell", x.count(6), 108);
        dueWaters(x, 9, 9, 9, 9, 9, 9, 9, 9, 9, 9, 9, 9);
    }

    static void promise09Weather10IsFrostAlone() {
        PuddleMinistries x = Streets.holding(19);
        int fell = x.count(6);
        due("pass", x.pass(10), 19);
        due("frozen", x.count(9), Streets.ALL);
        due("fell", x.count(6), fell);
        due("days", x.count(4), 0);
    }

    static void promise09Weather11IsTheEndOfADayAlone() {
        PuddleMinistries x = Streets.holding(19);
        int fell = x.count(6);
        due("pass", x.pass(11), 19);
        due("days", x.count(4), 1);
        due("frozen", x.count(9), 0);
        due("fell", x.count(6), fell);
        due("dried", x.count(7), 0);
    }

    // ---- rain

    static void promise09RainJustToTheBrim() {
        PuddleMinistries x = new PuddleMinistries();
        x.brim(0, 9);
        x.pass(9);
        dueWaters(x, 9, 9, 9);
    }

    static void promise09RainOneAboveTheBrim() {
        PuddleMinistries x = new PuddleMinistries();
        x.brim(0, 8);
        x.pass(9);
        dueWaters(x, 8, 10, 9);
        due("drained", x.count(8), 0);
        due("fell", x.count(6), 108);
    }

    static void promise09RainOneBelowTheBrim() {
        PuddleMinistries x = new PuddleMinistries();
        x.brim(0, 10);
        x.pass(9);
        dueWaters(x, 9, 9, 9);
    }

    static void promise09WhatRanInReachesJustTheBrim() {
        PuddleMinistries x = new PuddleMinistries();
        x.brim(0, 8);
        x.brim(1, 10);
        x.pass(9);
        dueWaters(x, 8, 10, 9);
    }

    static void promise09WhatRanInRunsOn() {
        PuddleMinistries x = new PuddleMinistries();
        x.brim(0, 8);
        x.brim(1, 9);
        x.pass(9);
        dueWaters(x, 8, 9, 10, 9);
    }

    static void promise09RunsDownInTheSameHour() {
        PuddleMinistries x = Streets.holding(60, 60, 60, 60, 0);
        int drained = x.count(8);
        x.pass(9);
        dueWaters(x, 60, 60, 60, 60, 45, 9, 9, 9, 9, 9, 9, 9);
        due("drained", x.count(8) - drained, 0);
    }

    static void promise09NothingRunsUp() {
        PuddleMinistries x = Streets.holding(0, 60);
        x.pass(9);
        dueWaters(x, 9, 60, 18, 9);
    }

    static void promise09FullPuddle11RunsIntoTheDrain() {
        PuddleMinistries x = Streets.holding(0, 0, 0, 0, 0, 0, 0, 0, 0, 0, 0, 60);
        int drained = x.count(8);
        due("pass", x.pass(9), 60 + 11 * 9);
        due("puddle 11", x.puddle(11, 1), 60);
        due("drained", x.count(8) - drained, 9);
        due("not to the puddle 0", x.puddle(0, 1), 9);
    }

    static void promise09Puddle11ReachesJustItsBrim() {
        PuddleMinistries x = Streets.holding(0, 0, 0, 0, 0, 0, 0, 0, 0, 0, 0, 51);
        int drained = x.count(8);
        x.pass(9);
        due("puddle 11", x.puddle(11, 1), 60);
        due("drained", x.count(8) - drained, 0);
        x.pass(1);
        due("puddle 11", x.puddle(11, 1), 60);
        due("drained", x.count(8) - drained, 1);
    }

    static void promise09LeastBrimsAllAlongTheStreet() {
        PuddleMinistries x = new PuddleMinistries();
        Streets.setBrims(x, 1);
        due("pass", x.pass(9), 12);
        due("fell", x.count(6), 108);
        due("drained", x.count(8), 96);
    }

    static void promise09FrozenNextToOneThatRunsOver() {
        PuddleMinistries x = Streets.frozen(60, 0, 0);
        int drained = x.count(8), fell = x.count(6);
        x.pass(9);
        dueWaters(x, 60, 0, 0);
        due("drained", x.count(8) - drained, 9);
        due("fell", x.count(6) - fell, 9);
    }

    static void promise09FrozenPuddle11NextToOneThatRunsOver() {
        PuddleMinistries x = Streets.frozen(0, 0, 0, 0, 0, 0, 0, 0, 0, 0, 60, 7);
        int drained = x.count(8);
        x.pass(9);
        due("puddle 10", x.puddle(10, 1), 60);
        due("puddle 11", x.puddle(11, 1), 7);
        due("drained", x.count(8) - drained, 9);
    }

    static void promise09BehindIceNothingRunsIn() {
        PuddleMinistries x = Streets.frozen(60, 0, 20);
        int drained = x.count(8);
        x.pass(9);
        dueWaters(x, 60, 0, 29, 0);
        due("drained", x.count(8) - drained, 9);
    }

    static void promise09BetweenIceEachRunsIntoTheDrain() {
        PuddleMinistries x = Streets.frozen(60, 0, 60, 0, 60, 60);
        int drained = x.count(8), fell = x.count(6);
        x.pass(9);
        dueWaters(x, 60, 0, 60, 0, 60, 60);
        due("drained", x.count(8) - drained, 36);
        due("fell", x.count(6) - fell, 36);
    }

    static void promise09FrozenPuddle0() {
        PuddleMinistries x = Streets.frozen(12, 20);
        x.pass(9);
        dueWaters(x, 12, 29, 0);
    }

    static void promise09RainOnIceAlone() {
        PuddleMinistries x = Streets.frozen(19, 0, 7);
        int drained = x.count(8), fell = x.count(6);
        due("pass", x.pass(9), 26);
        dueWaters(x, 19, 0, 7, 0);
        due("fell", x.count(6) - fell, 0);
        due("drained", x.count(8) - drained, 0);
        due("frozen still", x.count(9), Streets.ALL);
    }

    static void promise09IceBelowItsBrimTakesNothing() {
        PuddleMinistries x = Streets.frozen(58, 5);
        int drained = x.count(8);
        x.pass(3);
        dueWaters(x, 60, 5, 0);
        due("drained", x.count(8) - drained, 1);
    }

    // ---- sun

    static void promise09JustSunOfWater() {
        PuddleMinistries x = Streets.holding(2);
        due("pass", x.pass(SUN), 0);
        due("dried", x.count(7), 2);
    }

    static void promise09LessWaterThanSun() {
        PuddleMinistries x = Streets.holding(1);
        due("pass", x.pass(SUN), 0);
        due("dried", x.count(7), 1);
        due("water", x.puddle(0, 1), 0);
    }

    static void promise09OneMoreThanSun() {
        PuddleMinistries x = Streets.holding(3);
        due("pass", x.pass(SUN), 1);
        due("dried", x.count(7), 2);
    }

    static void promise09SunOf0() {
        PuddleMinistries x = Streets.holding(5);
        x.set(1, 0);
        due("pass", x.pass(SUN), 5);
        due("dried", x.count(7), 0);
    }

    static void promise09SunOf20() {
        PuddleMinistries x = Streets.holding(21, 20, 19);
        x.set(1, 20);
        due("pass", x.pass(SUN), 1);
        dueWaters(x, 1, 0, 0);
        due("dried", x.count(7), 59);
    }

    static void promise09SunOnADryStreet() {
        PuddleMinistries x = new PuddleMinistries();
        due("pass", x.pass(SUN), 0);
        due("dried", x.count(7), 0);
    }

    static void promise09SunThawsAndDriesNoIce() {
        PuddleMinistries x = Streets.frozen(19);
        due("pass", x.pass(SUN), 19);
        due("thawed", x.count(9), 0);
        due("dried", x.count(7), 0);
        due("pass again", x.pass(SUN), 17);
        due("dried", x.count(7), 2);
    }

    static void promise09SunOf0Thaws() {
        PuddleMinistries x = Streets.frozen(19);
        x.set(1, 0);
        due("pass", x.pass(SUN), 19);
        due("thawed", x.count(9), 0);
    }

    static void promise09SunOnIceWithLessWaterThanSun() {
        PuddleMinistries x = Streets.frozen(1);
        due("pass", x.pass(SUN), 1);
        due("pass again", x.pass(SUN), 0);
        due("dried", x.count(7), 1);
    }

    static void promise09SunOnIceAndWater() {
        PuddleMinistries x = Streets.frozen(19, 20);
        x.pass(SUN);
        dueWaters(x, 19, 18);
        due("dried", x.count(7), 2);
    }

    // ---- frost

    static void promise09DepthOfJust4DoesNotFreeze() {
        PuddleMinistries x = Streets.holding(20, 24);
        due("pass", x.pass(FROST), 44);
        due("frozen", x.count(9), Streets.ALL - 3);
    }

    static void promise09DepthJustBelow4Freezes() {
        PuddleMinistries x = Streets.holding(19, 15);
        due("pass", x.pass(FROST), 34);
        due("frozen 19", x.puddle(0, 3), 1);
        due("frozen 15", x.puddle(1, 3), 1);
    }

    static void promise09DryOnesFreeze() {
        PuddleMinistries x = new PuddleMinistries();
        due("pass", x.pass(FROST), 0);
        due("frozen", x.count(9), Streets.ALL);
    }

    static void promise09FullestDoesNotFreeze() {
        PuddleMinistries x = Streets.holding(60);
        x.pass(FROST);
        due("frozen", x.puddle(0, 3), 0);
    }

    static void promise09FrostOnIce() {
        PuddleMinistries x = Streets.frozen(19);
        due("pass", x.pass(FROST), 19);
        due("frozen still", x.count(9), Streets.ALL);
    }

    static void promise09FrostKeepsNoDucksAway() {
        PuddleMinistries x = Streets.withDucks(19);
        x.pass(FROST);
        due("frozen", x.puddle(0, 3), 1);
        due("ducks until the day ends", x.puddle(0, 4), 1);
    }

    // ---- the end of a day

    static void promise09DucksComeAtJustDucks() {
        PuddleMinistries x = Streets.holding(15, 14, 16);
        x.pass(DAY);
        due("ducks", x.count(10), 1 | 4);
    }

    static void promise09DucksStayAtJustDucks() {
        PuddleMinistries x = Streets.withDucks(17);
        x.pass(SUN);
        x.pass(DAY);
        due("at 15", x.count(10), 1);
    }

    static void promise09DucksGoAtOneLess() {
        PuddleMinistries x = Streets.withDucks(16);
        x.pass(SUN);
        x.pass(DAY);
        due("at 14", x.count(10), 0);
    }

    static void promise09DucksDoNotComeToIce() {
        PuddleMinistries x = Streets.frozen(19, 20);
        x.pass(DAY);
        due("ducks", x.count(10), 2);
    }

    static void promise09DucksGoFromIce() {
        PuddleMinistries x = Streets.withDucks(19, 20);
        due("ducks", x.count(10), 3);
        x.pass(FROST);
        x.pass(DAY);
        due("ducks", x.count(10), 2);
    }

    static void promise09DucksComeBackBehindIce() {
        PuddleMinistries x = Streets.frozen(19);
        x.pass(DAY);
        due("on ice", x.count(10), 0);
        x.pass(SUN);
        x.pass(DAY);
        due("thawed", x.count(10), 1);
    }

    static void promise09DucksOf1() {
        PuddleMinistries x = Streets.holding(1);
        x.set(2, 1);
        x.pass(DAY);
        due("not to dry ones", x.count(10), 1);
    }

    static void promise09DucksOf60AtTheFullest() {
        PuddleMinistries x = Streets.holding(60, 59);
        x.set(2, 60);
        x.pass(DAY);
        due("ducks", x.count(10), 1);
    }

    static void promise09DucksAbove60NeverCome() {
        for (int ducks : new int[] {61, 99}) {
            PuddleMinistries x = Streets.holding(60);
            x.set(2, ducks);
            x.pass(DAY);
            due("ducks of " + ducks, x.count(10), 0);
        }
    }

    static void promise09DucksAtTheFirstAndLastPuddle() {
        PuddleMinistries x = Streets.holding(15, 0, 0, 0, 0, 0, 0, 0, 0, 0, 0, 15);
        x.pass(DAY);
        due("ducks", x.count(10), 1 | 1 << 11);
    }

    static void promise09DucksComeOnlyWhenADayEnds() {
        PuddleMinistries x = new PuddleMinistries();
        x.pass(9);
        x.pass(9);
        x.pass(SUN);
        x.pass(FROST);
        due("enough water in the day", x.count(10), 0);
        x.pass(SUN);
        x.pass(DAY);
        due("the day ends", x.count(10), Streets.ALL);
    }

    static void promise09DucksGoOnlyWhenADayEnds() {
        PuddleMinistries x = Streets.withDucks(15);
        x.pass(SUN);
        x.pass(SUN);
        due("less water in the day", x.count(10), 1);
        x.pass(DAY);
        due("the day ends", x.count(10), 0);
    }

    static void promise09LaterDucksSettingWaitsForTheDay() {
        PuddleMinistries x = Streets.withDucks(20);
        x.set(2, 21);
        due("in the day", x.count(10), 1);
        x.pass(DAY);
        due("behind it", x.count(10), 0);
    }

    static void promise09OnlyTheEndOfADayCountsDays() {
        PuddleMinistries x = new PuddleMinistries();
        for (int weather = 0; weather < DAY; weather++) x.pass(weather);
        due("days", x.count(4), 0);
        x.pass(DAY);
        due("days", x.count(4), 1);
        x.pass(DAY);
        due("days", x.count(4), 2);
    }

    static void promise09OnlyTheEndOfADayTakesDays() {
        PuddleMinistries x = new PuddleMinistries();
        x.permit(0, 0);
        for (int weather = 0; weather < DAY; weather++) x.pass(weather);
        due("holds", x.holds(0, 0), 5);
    }

    static void promise09EachPermitHasADayLess() {
        PuddleMinistries x = new PuddleMinistries();
        for (int walker = 0; walker < 6; walker++) {
            x.permit(walker, walker);
            x.permit(walker, 11);
        }
        x.pass(DAY);
        for (int walker = 0; walker < 6; walker++) {
            due("holds", x.holds(walker, walker), 4);
            due("holds", x.holds(walker, 11), 4);
        }
    }

    static void promise09NoPermitStaysNone() {
        PuddleMinistries x = new PuddleMinistries();
        x.pass(DAY);
        x.pass(DAY);
        due("holds", x.holds(0, 0), NONE);
        due("permits", x.count(11), 0);
        due("permit", x.permit(0, 0), 1);
        due("holds", x.holds(0, 0), 5);
    }

    // ---- weather that is read

    static void promise10EmptyPad() {
        PuddleMinistries x = new PuddleMinistries();
        due("read", x.read(), BAD_TEXT);
        due("no change", x.count(15), 0);
    }

    static void promise10PadThatWasReadOrWiped() {
        PuddleMinistries x = new PuddleMinistries();
        due("read", Checks.readAll(x, "r1"), 12);
        due("the pad is empty", x.count(14), 0);
        due("read again", x.read(), BAD_TEXT);
        x.put('s');
        x.wipe();
        due("read what was wiped", x.read(), BAD_TEXT);
        due("water", x.count(5), 12);
    }

    static void promise10EachHourAlone() {
        int[] counts = {4, 7, 9};
        String[] texts = {"d", "s", "f"};
        int[] wants = {1, 2, Streets.ALL - 1};
        for (int i = 0; i < texts.length; i++) {
            PuddleMinistries x = Streets.holding(20);
            due("read " + texts[i], Checks.readAll(x, texts[i]), i == 1 ? 18 : 20);
            due("count " + counts[i], x.count(counts[i]), wants[i]);
        }
    }

    static void promise10AmountsOf1And9() {
        PuddleMinistries x = new PuddleMinistries();
        due("r1", Checks.readAll(x, "r1"), 12);
        due("r9", Checks.readAll(x, "r9"), 120);
        due("fell", x.count(6), 120);
    }

    static void promise10AmountOf0() {
        PuddleMinistries x = new PuddleMinistries();
        due("r0", Checks.readAll(x, "r0"), BAD_TEXT);
        due("the pad stays", x.count(14), 2);
    }

    static void promise10HoursPassFromLeftToRight() {
        PuddleMinistries x = new PuddleMinistries(), y = new PuddleMinistries();
        due("rain, then frost", Checks.readAll(x, "r9f"), 108);
        due("frost, then rain", Checks.readAll(y, "fr9"), 0);
        PuddleMinistries z = new PuddleMinistries();
        due("rain, day, sun", Checks.readAll(z, "r9r6dss"), 12 * 11);
        due("ducks came before the sun", z.count(10), Streets.ALL);
    }

    static void promise10FullPadOfRain() {
        PuddleMinistries x = new PuddleMinistries();
        due("read", Checks.readAll(x, "r9".repeat(30)), 240);
        due("fell", x.count(6), 30 * 108);
        due("drained", x.count(8), 30 * 108 - 240);
        due("the pad is empty", x.count(14), 0);
        due("one change", x.count(15), 1);
    }

    static void promise10FullPadOfDays() {
        PuddleMinistries x = new PuddleMinistries();
        due("read", Checks.readAll(x, "d".repeat(60)), 0);
        due("days", x.count(4), 60);
        due("one change", x.count(15), 1);
        due("undo", x.undo(), 0);
        due("days", x.count(4), 0);
        due("the pad does not come back", x.count(14), 0);
    }

    static void promise10FullPadWithAFaultAtItsEnd() {
        PuddleMinistries x = new PuddleMinistries();
        due("read", Checks.readAll(x, "d".repeat(59) + "r"), BAD_TEXT);
        due("days", x.count(4), 0);
        due("the pad stays", x.wipe(), 60);
        due("read", Checks.readAll(x, "d".repeat(59) + "x"), BAD_TEXT);
        due("days", x.count(4), 0);
        due("the pad stays", x.wipe(), 60);
        due("read", Checks.readAll(x, "x" + "d".repeat(59)), BAD_TEXT);
        due("no change", x.count(15), 0);
    }

    private static void dueBadText(String text) {
        PuddleMinistries x = new PuddleMinistries();
        due("read of " + text, Checks.readAll(x, text), BAD_TEXT);
        due("the pad stays", x.count(14), text.length());
        due("no water", x.count(6), 0);
        due("no day", x.count(4), 0);
        due("no ice", x.count(9), 0);
        due("no change", x.count(15), 0);
    }

    static void promise10WrongHourAtEachPlace() {
        for (int at = 0; at < 60; at++) {
            dueBadText("d".repeat(at) + "x" + "d".repeat(59 - at));
            dueBadText("d".repeat(at) + "4");
        }
    }

    static void promise10WrongAmountAtEachPlace() {
        for (int at = 1; at < 60; at++) {
            dueBadText("f".repeat(at - 1) + "r0" + "d".repeat(59 - at));
            dueBadText("f".repeat(at - 1) + "rs");
        }
    }

    static void promise10TextThatEndsTooEarlyAtEachPlace() {
        for (int length = 1; length <= 60; length++) dueBadText("d".repeat(length - 1) + "r");
    }

    static void promise10MendedPadIsRead() {
        PuddleMinistries x = new PuddleMinistries();
        due("read", Checks.readAll(x, "r"), BAD_TEXT);
        due("read with the amount", Checks.readAll(x, "2"), 24);
    }

    // ---- the last days

    /**
     * So many days take more than 512 calls, and what is answered behind them is free: nobody can meet this limit
     * within what is promised. It is tested all the same, as it is told.
     */
    private static PuddleMinistries onTheDay(int day) {
        PuddleMinistries x = new PuddleMinistries();
        String days = "d".repeat(60);
        for (int text = 0; text < day / 60; text++) Checks.readAll(x, days);
        for (int rest = 0; rest < day % 60; rest++) x.pass(DAY);
        due("the day", x.count(4), day);
        return x;
    }

    static void promise09Day9999IsReached() {
        PuddleMinistries x = onTheDay(9998);
        due("pass", x.pass(DAY), 0);
        due("days", x.count(4), 9999);
    }

    static void promise09DaysAbove9999AreTooMany() {
        PuddleMinistries x = onTheDay(9999);
        x.permit(0, 0);
        due("pass", x.pass(DAY), TOO_MANY);
        due("days", x.count(4), 9999);
        due("no day of a permit goes by", x.holds(0, 0), 5);
        due("changes", x.count(15), 6);
        due("undo of the permit", x.undo(), 5);
        due("permits", x.count(11), 0);
    }

    static void promise09OtherWeatherOnTheDay9999() {
        PuddleMinistries x = onTheDay(9999);
        due("rain", x.pass(1), 12);
        due("frost", x.pass(FROST), 12);
        due("sun", x.pass(SUN), 12);
        due("no such weather", x.pass(12), BAD_VALUE);
    }

    static void promise10Day9999IsReached() {
        PuddleMinistries x = onTheDay(9939);
        due("read", Checks.readAll(x, "d".repeat(60)), 0);
        due("days", x.count(4), 9999);
    }

    static void promise10DaysAbove9999AreTooMany() {
        PuddleMinistries x = onTheDay(9940);
        due("read", Checks.readAll(x, "d".repeat(60)), TOO_MANY);
        due("days", x.count(4), 9940);
        due("the pad stays", x.wipe(), 60);
    }

    static void promise10NoHourOfTooManyDaysPasses() {
        PuddleMinistries x = onTheDay(9998);
        due("read", Checks.readAll(x, "r9dfd"), TOO_MANY);
        due("water", x.count(5), 0);
        due("fell", x.count(6), 0);
        due("frozen", x.count(9), 0);
        due("days", x.count(4), 9998);
        due("the pad stays", x.count(14), 5);
    }

    static void promise10OtherWeatherOnTheDay9999() {
        PuddleMinistries x = onTheDay(9999);
        due("read", Checks.readAll(x, "r1fs"), 12);
        due("days", x.count(4), 9999);
    }

    static void promise10BadTextGoesBeforeTooMany() {
        PuddleMinistries x = onTheDay(9999);
        due("days and a fault", Checks.readAll(x, "ddr"), BAD_TEXT);
        x.wipe();
        due("days alone", Checks.readAll(x, "dd"), TOO_MANY);
    }
}
