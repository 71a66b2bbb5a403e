/** Promises 20 to 22: the pad. */
public final class TextsTest {
    private static final int BAD_VALUE = -2, TOO_MANY = -4, NONE = -6;

    public static void main(String[] args) throws Exception {
        Checks.run(TextsTest.class);
    }

    private static void due(String call, long got, long want) {
        Checks.due(call, got, want);
    }

    static void promise20Put() {
        PuddleMinistries x = new PuddleMinistries();
        due("put 1", x.put('r'), 1);
        due("put 2", x.put(Checks.packed("7s")), 3);
        due("put 8", x.put(Checks.packed("r2dr2sfs")), 11);
        due("read in this order", x.read(), 12 * (7 - 2 + 2 + 2 - 2));
        due("days", x.count(4), 1);
        due("thawed", x.count(9), 0);
        due("put is no change", x.count(15), 1);
        String text = "!~";
        due("put of the lowest and highest code", x.put(Checks.packed(text)), 2);
        for (int length = 1; length <= 8; length++) {
            x.wipe();
            due("put of " + length, x.put(Checks.packed("sfdsfdsf".substring(0, length))), length);
        }
    }

    static void promise20PutErrors() {
        PuddleMinistries x = new PuddleMinistries();
        long[] wrong = {0, 32, 127, 128, 255, 's' << 8, ' ' << 8 | 's', 's' << 8 | ' ', 127 << 8 | 's', 200 << 8 | 's',
            1 << 16 | 's', 's' << 16 | 's', 1L << 63 | 's', 1L << 32 | 's', Long.MIN_VALUE, Long.MAX_VALUE, -1,
            Checks.packed("sssssss") << 8, 0xF373737373737373L, 0x2073737373737373L, 0x7F73737373737373L,
            0x7300737373737373L, 0x0100000000000073L};
        for (long characters : wrong) due("put " + Long.toHexString(characters), x.put(characters), BAD_VALUE);
        due("the pad is empty", x.count(14), 0);
        due("put of '!' seven times behind '~'", x.put(0x7E21212121212121L), 8);
    }

    static void promise20PutTooMany() {
        PuddleMinistries x = new PuddleMinistries();
        for (int put = 1; put <= 7; put++) due("put", x.put(Checks.packed("ssssssss")), 8 * put);
        due("put above 60", x.put(Checks.packed("sssss")), TOO_MANY);
        due("nothing is put", x.count(14), 56);
        due("bad value goes first", x.put(Checks.packed("ssss sss")), BAD_VALUE);
        due("put to 60", x.put(Checks.packed("ssss")), 60);
        due("put above 60", x.put('s'), TOO_MANY);
        due("put of 8 above 60", x.put(Checks.packed("ssssssss")), TOO_MANY);
        due("bad value goes first", x.put(0), BAD_VALUE);
        due("fault", x.fault(), NONE);
        due("wipe", x.wipe(), 60);
    }

    static void promise21Wipe() {
        PuddleMinistries x = new PuddleMinistries();
        due("wipe of an empty pad", x.wipe(), 0);
        x.put(Checks.packed("xyz"));
        due("wipe", x.wipe(), 3);
        due("empty", x.count(14), 0);
        due("wipe again", x.wipe(), 0);
        due("wipe is no change", x.count(15), 0);
        due("the old text is gone", x.put('d'), 1);
        due("fault", x.fault(), NONE);
        due("read", x.read(), 0);
        due("days", x.count(4), 1);
    }

    static void promise22Fault() {
        String[] texts = {"s", "f", "d", "r1", "r9", "sfdr5r6", "r", "r0", "r:", "rr", "rs", "1", "r11", "s1", "sr", "x",
            "r9r9r", "r9r9x", "sd0", "S", "r1R", "sx!", "rxx"};
        int[] faults = {NONE, NONE, NONE, NONE, NONE, NONE, 1, 1, 1, 1, 1, 0, 2, 1, 2, 0, 5, 4, 2, 0, 2, 1, 1};
        PuddleMinistries x = new PuddleMinistries();
        due("fault of an empty pad", x.fault(), 0);
        for (int i = 0; i < texts.length; i++) {
            Checks.putAll(x, texts[i]);
            due("fault of " + texts[i], x.fault(), faults[i]);
            due("fault leaves the pad", x.wipe(), texts[i].length());
        }
        StringBuilder rains = new StringBuilder();
        for (int rain = 0; rain < 30; rain++) rains.append("r").append(rain % 9 + 1);
        Checks.putAll(x, rains.toString());
        due("fault of 60 good ones", x.fault(), NONE);
        x.wipe();
        Checks.putAll(x, rains.substring(1));
        due("fault at the start", x.fault(), 0);
        x.wipe();
        Checks.putAll(x, "d" + rains.substring(0, 59));
        due("fault at the end", x.fault(), 60);
        due("read", x.read(), -3);
    }

    static void promise22FaultOfEachSign() {
        for (char sign = 33; sign < 127; sign++) {
            PuddleMinistries x = new PuddleMinistries();
            boolean hour = sign == 's' || sign == 'f' || sign == 'd', amount = sign >= '1' && sign <= '9';
            x.put(sign);
            due("fault of " + sign, x.fault(), hour ? NONE : sign == 'r' ? 1 : 0);
            x.wipe();
            x.put('r' << 8 | sign);
            due("fault of r" + sign, x.fault(), amount ? NONE : 1);
            x.wipe();
        }
    }
}
