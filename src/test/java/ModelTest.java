import java.util.Random;

/** All promises: runs of 512 calls, most of them drawn with fixed seeds, whose answers are compared with the model's. */
public final class ModelTest {
    // The questions at the end of a run belong to the calls for which an object is promised.
    private static final int AT_THE_END = 16 + 12 * 7 + 6 * 6, DRAWN = 512 - AT_THE_END, RUNS = 500;
    private static final int[] ODD = {-1, -2, -7, Integer.MIN_VALUE, Integer.MAX_VALUE, 12, 6, 4, 61};
    private static final int[] CHANGES = {0, 1, 2, 3, 4, 4, 5, 5, 6, 7, 7, 7, 7, 8, 8, 19, 19, 19, 20, 22, 22, 23, 24};

    private final PuddleMinistries program = new PuddleMinistries();
    private final Model model = new Model();
    private final Random random;
    private final int seed;

    private ModelTest(int seed) {
        this.seed = seed;
        random = new Random(seed);
    }

    public static void main(String[] args) {
        for (int seed = 0; seed < RUNS; seed++) new ModelTest(seed).run();
        Checks.finish("ModelTest");
    }

    /** What undo and the slots bring back, as far as the program tells it. */
    static String stateOf(PuddleMinistries x) {
        StringBuilder all = new StringBuilder();
        for (int what = 0; what < 14; what++) all.append(x.count(what)).append(' ');
        for (int puddle = 0; puddle < 12; puddle++) {
            for (int what = 0; what < 7; what++) all.append(x.puddle(puddle, what)).append(' ');
        }
        for (int walker = 0; walker < 6; walker++) {
            for (int what = 0; what < 6; what++) all.append(x.walker(walker, what)).append(' ');
            for (int puddle = 0; puddle < 12; puddle++) all.append(x.holds(walker, puddle)).append(' ');
        }
        return all.toString();
    }

    static String allOf(PuddleMinistries x) {
        return stateOf(x) + x.count(14) + ' ' + x.count(15) + ' ' + x.fault();
    }

    private void run() {
        boolean questions = seed % 2 == 0;
        for (int call = 0; call < DRAWN; call++) {
            call(questions ? random.nextInt(25) : CHANGES[random.nextInt(CHANGES.length)]);
        }
        for (int what = 0; what < 16; what++) due("count(" + what + ")", program.count(what), model.count(what));
        for (int puddle = 0; puddle < 12; puddle++) {
            for (int what = 0; what < 7; what++) {
                due("puddle(" + puddle + ", " + what + ")", program.puddle(puddle, what), model.puddle(puddle, what));
            }
        }
        for (int walker = 0; walker < 6; walker++) {
            for (int what = 0; what < 6; what++) {
                due("walker(" + walker + ", " + what + ")", program.walker(walker, what), model.walker(walker, what));
            }
        }
    }

    private void due(String call, long got, long want) {
        Checks.due("seed " + seed + ": " + call, got, want);
    }

    private int below(int bound) {
        return random.nextInt(25) == 0 ? ODD[random.nextInt(ODD.length)] : random.nextInt(bound);
    }

    private int settingValue(int setting) {
        int[] most = {20, 20, 40, 8};
        if (random.nextInt(8) == 0) return random.nextInt(110) - 3;
        return random.nextInt(most[Math.floorMod(setting, 4)] + 1);
    }

    private int weather() {
        return random.nextInt(3) == 0 ? below(12) : new int[] {0, 10, 11}[random.nextInt(3)];
    }

    private long text() {
        StringBuilder text = new StringBuilder();
        int hours = random.nextInt(4) + 1;
        for (int hour = 0; hour < hours; hour++) {
            text.append(new String[] {"s", "f", "d", "r" + (random.nextInt(9) + 1)}[random.nextInt(4)]);
        }
        if (random.nextInt(15) == 0) text.append((char) (33 + random.nextInt(94)));
        long packed = Checks.packed(text.toString());
        if (random.nextInt(12) == 0) packed ^= 1L << random.nextInt(64);
        return random.nextInt(30) == 0 ? random.nextLong() : packed;
    }

    private void call(int method) {
        int walker = below(6), puddle = below(12), to = below(12);
        switch (method) {
            case 0: {
                int setting = below(4), value = settingValue(setting);
                due("set(" + setting + ", " + value + ")", program.set(setting, value), model.set(setting, value));
                break;
            }
            case 1: {
                int brim = 1 + below(60);
                due("brim(" + puddle + ", " + brim + ")", program.brim(puddle, brim), model.brim(puddle, brim));
                break;
            }
            case 2: due("drain(" + puddle + ")", program.drain(puddle), model.drain(puddle)); break;
            case 3: due("shoes(" + walker + ", " + to / 3 + ")", program.shoes(walker, to / 3), model.shoes(walker, to / 3)); break;
            case 4: due("permit(" + walker + ", " + puddle + ")", program.permit(walker, puddle), model.permit(walker, puddle)); break;
            case 5: due("walk(" + walker + ", " + puddle + ", " + to + ")", program.walk(walker, puddle, to), model.walk(walker, puddle, to)); break;
            case 6: due("pay(" + walker + ")", program.pay(walker), model.pay(walker)); break;
            case 7: {
                int weather = weather();
                due("pass(" + weather + ")", program.pass(weather), model.pass(weather));
                break;
            }
            case 8: due("read()", program.read(), model.read()); break;
            case 9: due("puddle(" + puddle + ", " + to / 2 + ")", program.puddle(puddle, to / 2), model.puddle(puddle, to / 2)); break;
            case 10: due("walker(" + walker + ", " + to / 2 + ")", program.walker(walker, to / 2), model.walker(walker, to / 2)); break;
            case 11: due("why(" + walker + ", " + puddle + ")", program.why(walker, puddle), model.why(walker, puddle)); break;
            case 12: due("holds(" + walker + ", " + puddle + ")", program.holds(walker, puddle), model.holds(walker, puddle)); break;
            case 18: {
                int what = below(2);
                due("longestWalk(" + walker + ", " + what + ")", program.longestWalk(walker, what), model.longestWalk(walker, what));
                break;
            }
            case 19: {
                long text = text();
                due("put(" + text + ")", program.put(text), model.put(text));
                break;
            }
            default: callMore(method, walker, puddle, to);
        }
    }

    private void callMore(int method, int walker, int puddle, int to) {
        int two = below(2), many = below(16);
        switch (method) {
            case 13: due("count(" + many + ")", program.count(many), model.count(many)); break;
            case 14: case 15: due("cost(" + walker + ", " + puddle + ", " + to + ", " + two + ")",
                program.cost(walker, puddle, to, two), model.cost(walker, puddle, to, two)); break;
            case 16: due("untilDry(" + puddle + ")", program.untilDry(puddle), model.untilDry(puddle)); break;
            case 17: due("leastShoes(" + walker + ")", program.leastShoes(walker), model.leastShoes(walker)); break;
            case 20: if (many < 4) due("wipe()", program.wipe(), model.wipe()); break;
            case 21: due("fault()", program.fault(), model.fault()); break;
            case 22: due("undo()", program.undo(), model.undo()); break;
            case 23: due("save(" + two + ")", program.save(two), model.save(two)); break;
            default: due("restore(" + two + ")", program.restore(two), model.restore(two));
        }
    }
}
