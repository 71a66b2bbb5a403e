/** Promises 20 to 22: the boundary cases of the pad. */
public final class TextEdgesTest {
    private static final int BAD_VALUE = -2, TOO_MANY = -4, NONE = -6;

    public static void main(String[] args) throws Exception {
        Checks.run(TextEdgesTest.class);
    }

    private static void due(String call, long got, long want) {
        Checks.due(call, got, want);
    }

    private static PuddleMinistries padOf(String text) {
        PuddleMinistries x = new PuddleMinistries();
        Checks.putAll(x, text);
        return x;
    }

    // ---- put

    static void promise20OneCharacter() {
        PuddleMinistries x = new PuddleMinistries();
        due("put", x.put('s'), 1);
        due("fault", x.fault(), NONE);
    }

    static void promise20EightCharacters() {
        PuddleMinistries x = new PuddleMinistries();
        due("put", x.put(Checks.packed("r1r2r3r4")), 8);
        due("read", x.read(), 120);
    }

    static void promise20EachNumberOfCharacters() {
        for (int number = 1; number <= 8; number++) {
            PuddleMinistries x = new PuddleMinistries();
            due("put of " + number, x.put(Checks.packed("s".repeat(number))), number);
            due("fault", x.fault(), NONE);
            due("put of as many behind them", x.put(Checks.packed("d".repeat(number))), 2 * number);
            x.read();
            due("days", x.count(4), number);
        }
    }

    static void promise20NoCharacter() {
        PuddleMinistries x = new PuddleMinistries();
        due("put of 0", x.put(0), BAD_VALUE);
        due("pad", x.count(14), 0);
    }

    static void promise20LowestBitsAreTheLastCharacter() {
        PuddleMinistries x = new PuddleMinistries(), y = new PuddleMinistries();
        x.put('r' << 8 | '5');
        due("r5", x.fault(), NONE);
        y.put('5' << 8 | 'r');
        due("5r", y.fault(), 0);
    }

    static void promise20CharactersAreAppended() {
        PuddleMinistries x = new PuddleMinistries();
        due("put", x.put('r'), 1);
        due("put behind it", x.put('3' << 8 | 'd'), 3);
        due("read", x.read(), 36);
        due("days", x.count(4), 1);
    }

    private static void eachPlace(int code, boolean good) {
        for (int number = 1; number <= 8; number++) {
            PuddleMinistries x = new PuddleMinistries();
            for (int place = 0; place < number; place++) {
                long text = Checks.packed("s".repeat(number)) & ~(255L << 8 * place) | (long) code << 8 * place;
                due("put of " + Long.toHexString(text), x.put(text), good ? number : BAD_VALUE);
                due("the pad's length", x.wipe(), good ? number : 0);
            }
        }
    }

    static void promise20Code32() {
        eachPlace(32, false);
    }

    static void promise20Code33() {
        eachPlace(33, true);
    }

    static void promise20Code126() {
        eachPlace(126, true);
    }

    static void promise20Code127() {
        eachPlace(127, false);
    }

    static void promise20CodesFarFromTheRange() {
        for (int code : new int[] {1, 31, 128, 160, 243, 254, 255}) eachPlace(code, false);
    }

    static void promise20EachCodeAlone() {
        for (int from = 0; from < 256; from += 64) {
            PuddleMinistries x = new PuddleMinistries();
            for (int code = from; code < from + 64; code++) {
                boolean good = code >= 33 && code <= 126;
                due("put of " + code, x.put(code), good ? 1 : BAD_VALUE);
                due("the pad's length", x.wipe(), good ? 1 : 0);
            }
        }
    }

    static void promise20BitAboveEightThatAre0() {
        PuddleMinistries x = new PuddleMinistries();
        for (int number = 0; number < 8; number++) {
            long text = Checks.packed("s".repeat(number));
            for (int bit = 8 * number + 8; bit < 64; bit++) {
                due("put of " + number + " and the bit " + bit, x.put(text | 1L << bit), BAD_VALUE);
            }
        }
        due("pad", x.count(14), 0);
    }

    static void promise20CharactersAboveEightBitsThatAre0() {
        PuddleMinistries x = new PuddleMinistries();
        for (int place = 0; place < 7; place++) {
            long text = Checks.packed("ssssssss") & ~(255L << 8 * place);
            due("put of " + Long.toHexString(text), x.put(text), BAD_VALUE);
        }
        long eightAreZero = Checks.packed("ssssssss") & ~(255L << 56);
        due("put of seven", x.put(eightAreZero), 7);
    }

    static void promise20NegativeNumbers() {
        PuddleMinistries x = new PuddleMinistries();
        for (long text : new long[] {-1, Long.MIN_VALUE, Long.MIN_VALUE | 's', -256 | 's'}) {
            due("put of " + text, x.put(text), BAD_VALUE);
        }
        due("pad", x.count(14), 0);
    }

    static void promise20LengthOfJust60() {
        for (int last = 1; last <= 8; last++) {
            PuddleMinistries x = padOf("s".repeat(60 - last));
            due("put of " + last, x.put(Checks.packed("s".repeat(last))), 60);
            due("fault", x.fault(), NONE);
        }
    }

    static void promise20LengthOf61() {
        for (int last = 1; last <= 8; last++) {
            PuddleMinistries x = padOf("s".repeat(61 - last));
            due("put of " + last, x.put(Checks.packed("x".repeat(last))), TOO_MANY);
            due("nothing was put", x.count(14), 61 - last);
            due("fault", x.fault(), NONE);
        }
    }

    static void promise20RoomBehindTooMany() {
        PuddleMinistries x = padOf("s".repeat(58));
        due("three", x.put(Checks.packed("sss")), TOO_MANY);
        due("two", x.put(Checks.packed("ss")), 60);
        due("one", x.put('s'), TOO_MANY);
        due("wipe", x.wipe(), 60);
        due("one", x.put('s'), 1);
    }

    // ---- wipe

    static void promise21EmptyPad() {
        PuddleMinistries x = new PuddleMinistries();
        due("wipe", x.wipe(), 0);
        due("length", x.count(14), 0);
    }

    static void promise21PadOfOne() {
        PuddleMinistries x = padOf("x");
        due("wipe", x.wipe(), 1);
        due("wipe again", x.wipe(), 0);
    }

    static void promise21FullPad() {
        PuddleMinistries x = padOf("x".repeat(60));
        due("wipe", x.wipe(), 60);
        due("length", x.count(14), 0);
        due("put", x.put('d'), 1);
        due("nothing of the old text is left", x.fault(), NONE);
        due("read", x.read(), 0);
        due("days", x.count(4), 1);
    }

    static void promise21IsNoChange() {
        PuddleMinistries x = padOf("s");
        x.wipe();
        due("changes", x.count(15), 0);
    }

    // ---- fault

    static void promise22EmptyPad() {
        due("fault", new PuddleMinistries().fault(), 0);
    }

    static void promise22EmptyPadAgain() {
        PuddleMinistries x = padOf("rx");
        x.wipe();
        due("fault behind wipe", x.fault(), 0);
        Checks.readAll(x, "d");
        due("fault behind read", x.fault(), 0);
    }

    static void promise22EachLengthWithoutFault() {
        for (int length = 1; length <= 60; length++) {
            due("fault of " + length, padOf("sfd".repeat(20).substring(0, length)).fault(), NONE);
        }
        for (int rains = 1; rains <= 30; rains++) due("fault of " + rains, padOf("r7".repeat(rains)).fault(), NONE);
    }

    static void promise22WrongHourAtEachPlace() {
        for (int place = 0; place < 60; place++) {
            for (String wrong : new String[] {"x", "1", "R", "!", "~"}) {
                String text = "s".repeat(place) + wrong + "s".repeat(59 - place);
                due("fault of " + text, padOf(text).fault(), place);
            }
        }
    }

    static void promise22WrongAmountAtEachPlace() {
        for (int place = 1; place < 60; place++) {
            for (String wrong : new String[] {"0", ":", "/", "r", "s", "d"}) {
                String text = "f".repeat(place - 1) + "r" + wrong + "f".repeat(59 - place);
                due("fault of " + text, padOf(text).fault(), place);
            }
        }
    }

    static void promise22SecondDigitOfAnAmount() {
        due("fault", padOf("r11").fault(), 2);
        due("fault", padOf("sr99s").fault(), 3);
    }

    static void promise22TextThatEndsTooEarlyAtEachPlace() {
        for (int length = 1; length <= 60; length++) {
            due("fault of " + length, padOf("d".repeat(length - 1) + "r").fault(), length);
        }
        for (int rains = 0; rains < 30; rains++) {
            due("fault behind " + rains, padOf("r1".repeat(rains) + "r").fault(), 2 * rains + 1);
        }
    }

    static void promise22FirstOfSeveralFaults() {
        due("two", padOf("sxsx").fault(), 1);
        due("and an end that is too early", padOf("srxr").fault(), 2);
        due("all", padOf("xxxxxxxx").fault(), 0);
    }

    static void promise22AmountsOf0To9() {
        for (int amount = 0; amount <= 9; amount++) due("r" + amount, padOf("r" + amount).fault(), amount == 0 ? 1 : NONE);
    }

    static void promise22LeavesThePad() {
        PuddleMinistries x = padOf("dr");
        due("fault", x.fault(), 2);
        due("fault again", x.fault(), 2);
        due("length", x.count(14), 2);
        x.put('1');
        due("read", x.read(), 12);
        due("days", x.count(4), 1);
    }
}
