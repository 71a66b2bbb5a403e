/** Counts the answers that are not as due, and prints them. */
final class Checks {
    private static int wrong = 0;
    private static int asked = 0;

    private Checks() {
    }

    static void due(String call, long got, long want) {
        asked++;
        if (got == want) return;
        wrong++;
        System.out.println(call + " answered " + got + ", due is " + want);
    }

    static void due(String call, boolean got) {
        due(call, got ? 1 : 0, 1);
    }

    /** Texts are put as numbers, so a test that tells them as texts packs them first. */
    static long packed(String text) {
        long number = 0;
        for (char sign : text.toCharArray()) number = number << 8 | sign;
        return number;
    }

    static void putAll(PuddleMinistries x, String text) {
        for (int at = 0; at < text.length(); at += 8) {
            int end = Math.min(text.length(), at + 8);
            due("put of " + text.substring(at, end), x.put(packed(text.substring(at, end))) >= 0);
        }
    }

    static int readAll(PuddleMinistries x, String text) {
        putAll(x, text);
        return x.read();
    }

    static void finish(String test) {
        System.out.println(test + ": " + asked + " answers, " + wrong + " not as due");
        if (wrong != 0) System.exit(1);
    }
}
