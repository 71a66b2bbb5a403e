/** Promises 23 to 25: undo, save and restore. */
public final class UndoTest {
    private static final int BAD_VALUE = -2, NOT_POSSIBLE = -5;
    private static final int MAX = Integer.MAX_VALUE, MIN = Integer.MIN_VALUE;

    public static void main(String[] args) throws Exception {
        Checks.run(UndoTest.class);
    }

    private static void due(String call, long got, long want) {
        Checks.due(call, got, want);
    }

    static void promise23Undo() {
        PuddleMinistries x = new PuddleMinistries();
        due("undo of nothing", x.undo(), NOT_POSSIBLE);
        x.set(0, 9);
        x.set(0, 8);
        x.set(0, 8);
        due("undo of a change that changed nothing", x.undo(), 2);
        due("duty", x.count(0), 8);
        due("undo", x.undo(), 1);
        due("duty", x.count(0), 9);
        x.set(0, 7);
        due("changes", x.count(15), 2);
        due("undo", x.undo(), 1);
        due("duty", x.count(0), 9);
        due("undo", x.undo(), 0);
        due("duty", x.count(0), 3);
        due("undo of nothing", x.undo(), NOT_POSSIBLE);
        due("duty", x.count(0), 3);
    }

    private static PuddleMinistries usedStreet() {
        PuddleMinistries x = new PuddleMinistries();
        x.pass(9);
        x.brim(3, 33);
        x.pass(5);
        x.permit(1, 1);
        x.permit(2, 4);
        x.shoes(1, 2);
        x.walk(1, 0, 5);
        x.pay(1);
        x.walk(1, 4, 5);
        x.drain(6);
        x.save(0);
        x.pass(10);
        return x;
    }

    static void promise23UndoOfEachChange() {
        for (int change = 0; change < 21; change++) {
            PuddleMinistries x = usedStreet();
            String before = ModelTest.stateOf(x);
            int changes = x.count(15);
            change(x, change);
            due("change " + change + " is recorded", x.count(15), 6);
            due("undo of change " + change, x.undo(), Math.min(changes, 5));
            Checks.due("undo of change " + change + " brings all back", before.equals(ModelTest.stateOf(x)));
        }
    }

    private static void change(PuddleMinistries x, int change) {
        switch (change) {
            case 0: x.set(1, 9); break;
            case 1: x.brim(5, 2); break;
            case 2: x.drain(7); break;
            case 3: x.shoes(4, 3); break;
            case 4: x.permit(5, 5); break;
            case 5: x.permit(1, 1); break;
            case 6: x.walk(1, 1, 4); break;
            case 7: x.pay(1); break;
            case 8: Checks.readAll(x, "sr9dsdr9f"); break;
            case 9: x.restore(0); break;
            default: x.pass(change - 9);
        }
    }

    static void promise23HistoryIsBounded() {
        PuddleMinistries x = new PuddleMinistries();
        for (int brim = 1; brim <= 10; brim++) {
            x.brim(0, brim);
            due("changes", x.count(15), Math.min(brim, 6));
        }
        for (int left = 5; left >= 0; left--) {
            due("undo", x.undo(), left);
            due("brim", x.puddle(0, 0), left + 4);
        }
        due("undo of the dropped ones", x.undo(), NOT_POSSIBLE);
        due("brim", x.puddle(0, 0), 4);
        for (int brim = 20; brim <= 40; brim++) x.brim(0, brim);
        due("undo", x.undo(), 5);
        due("brim", x.puddle(0, 0), 39);
        x.brim(0, 50);
        due("undo", x.undo(), 5);
        due("brim", x.puddle(0, 0), 39);
    }

    static void promise23PadAndSlotsStay() {
        PuddleMinistries x = new PuddleMinistries();
        x.pass(11);
        x.save(1);
        x.pass(11);
        x.put('r');
        due("undo", x.undo(), 1);
        due("the pad stays", x.count(14), 1);
        due("undo", x.undo(), 0);
        due("days", x.count(4), 0);
        due("the slot stays", x.restore(1), 1);
        x.put('4');
        due("read", x.read(), 48);
        due("undo of a reading", x.undo(), 1);
        due("the pad stays empty", x.count(14), 0);
        due("undo of a restoring", x.undo(), 0);
        due("days", x.count(4), 0);
    }

    static void promise23ErrorsAreNoChanges() {
        PuddleMinistries x = usedStreet();
        x.pass(0);
        x.set(2, 14);
        x.pass(11);
        String before = ModelTest.allOf(x);
        x.set(4, 0);
        x.set(0, 21);
        x.brim(12, 1);
        x.brim(0, 0);
        x.drain(12);
        due("drain below ducks", x.drain(0), NOT_POSSIBLE);
        x.shoes(0, 4);
        x.shoes(6, 0);
        due("permit below ducks", x.permit(0, 0), NOT_POSSIBLE);
        x.permit(6, 0);
        x.walk(0, 0, 12);
        x.walk(6, 0, 0);
        x.pay(6);
        x.pass(12);
        x.read();
        x.restore(1);
        x.restore(2);
        x.save(2);
        x.put(0);
        Checks.due("errors change nothing", before.equals(ModelTest.allOf(x)));
    }

    static void promise24Save() {
        PuddleMinistries x = new PuddleMinistries();
        for (int slot : new int[] {-1, 2, MAX, MIN}) due("save " + slot, x.save(slot), BAD_VALUE);
        due("save", x.save(0), 0);
        x.pass(11);
        x.pass(11);
        due("save", x.save(1), 2);
        due("save is no change", x.count(15), 2);
        x.pass(11);
        due("save over it", x.save(1), 3);
        due("restore", x.restore(0), 0);
        due("restore", x.restore(1), 3);
        due("save of what was restored", x.save(0), 3);
        x.pass(11);
        due("the slot keeps what was saved", x.restore(0), 3);
    }

    static void promise25Restore() {
        PuddleMinistries x = new PuddleMinistries();
        for (int slot : new int[] {-1, 2, MAX, MIN}) due("restore " + slot, x.restore(slot), BAD_VALUE);
        due("restore of nothing", x.restore(0), NOT_POSSIBLE);
        due("restore of nothing", x.restore(1), NOT_POSSIBLE);
        due("no change", x.count(15), 0);
        x.pass(11);
        x.put('s');
        due("save", x.save(1), 1);
        due("the other one has nothing", x.restore(0), NOT_POSSIBLE);
        x.put('f');
        x.pass(11);
        due("restore", x.restore(1), 1);
        due("it is a change", x.count(15), 3);
        due("the pad stays", x.count(14), 2);
        x.pass(11);
        due("restore again", x.restore(1), 1);
        due("undo", x.undo(), 4);
        due("days", x.count(4), 2);
    }

    static void promise25RestoreEverything() {
        String saved = ModelTest.stateOf(usedStreet());
        PuddleMinistries x = usedStreet();
        x.save(1);
        for (int change = 0; change < 21; change++) change(x, change);
        due("it is another day", x.count(4), 1);
        x.restore(1);
        Checks.due("all is restored", saved.equals(ModelTest.stateOf(x)));
        for (int change = 20; change >= 0; change--) change(x, change);
        due("it is another day", x.count(4), 2);
        x.restore(1);
        Checks.due("all is restored again", saved.equals(ModelTest.stateOf(x)));
    }
}
