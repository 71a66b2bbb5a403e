/** Promises 23 to 25: the boundary cases of undo, save and restore. */
public final class UndoEdgesTest {
    private static final int BAD_VALUE = -2, NOT_POSSIBLE = -5;

    public static void main(String[] args) throws Exception {
        Checks.run(UndoEdgesTest.class);
    }

    private static void due(String call, long got, long want) {
        Checks.due(call, got, want);
    }

    // ---- undo

    static void promise23EmptyHistory() {
        PuddleMinistries x = new PuddleMinistries();
        due("undo", x.undo(), NOT_POSSIBLE);
        due("undo again", x.undo(), NOT_POSSIBLE);
        due("changes", x.count(15), 0);
        due("brim", x.puddle(0, 0), 20);
    }

    static void promise23HistoryOfOne() {
        PuddleMinistries x = new PuddleMinistries();
        x.brim(0, 7);
        due("undo", x.undo(), 0);
        due("brim", x.puddle(0, 0), 20);
        due("undo again", x.undo(), NOT_POSSIBLE);
        due("brim", x.puddle(0, 0), 20);
    }

    /** The brims 31, 32 and so on, one for each change. */
    private static PuddleMinistries changed(int changes) {
        PuddleMinistries x = new PuddleMinistries();
        for (int change = 1; change <= changes; change++) x.brim(0, 30 + change);
        return x;
    }

    static void promise23FullHistory() {
        PuddleMinistries x = changed(6);
        due("changes", x.count(15), 6);
        for (int left = 5; left >= 0; left--) {
            due("undo", x.undo(), left);
            due("brim", x.puddle(0, 0), left == 0 ? 20 : 30 + left);
        }
        due("undo of none", x.undo(), NOT_POSSIBLE);
    }

    static void promise23FullHistoryAndOneMore() {
        PuddleMinistries x = changed(7);
        due("changes", x.count(15), 6);
        for (int left = 5; left >= 0; left--) {
            due("undo", x.undo(), left);
            due("brim", x.puddle(0, 0), 31 + left);
        }
        due("undo of the one that was dropped", x.undo(), NOT_POSSIBLE);
        due("brim", x.puddle(0, 0), 31);
    }

    static void promise23FullHistoryAndManyMore() {
        for (int changes = 8; changes <= 25; changes++) {
            PuddleMinistries x = changed(changes);
            for (int left = 5; left >= 0; left--) {
                due("undo", x.undo(), left);
                due("brim", x.puddle(0, 0), 30 + changes - 6 + left);
            }
            due("undo of those that were dropped", x.undo(), NOT_POSSIBLE);
        }
    }

    static void promise23ChangesBehindAnUndo() {
        PuddleMinistries x = changed(7);
        x.undo();
        x.undo();
        x.brim(0, 50);
        due("changes", x.count(15), 5);
        due("undo", x.undo(), 4);
        due("the one that was undone does not come back", x.puddle(0, 0), 35);
        x.undo();
        due("brim", x.puddle(0, 0), 34);
    }

    static void promise23UndoIsNoChange() {
        PuddleMinistries x = changed(2);
        x.undo();
        due("changes", x.count(15), 1);
        x.undo();
        due("brim", x.puddle(0, 0), 20);
    }

    private static void dueChange(String change, long answer, long want, PuddleMinistries x) {
        due(change, answer, want);
        due(change + " is recorded", x.count(15), 1);
        due("undo of " + change, x.undo(), 0);
    }

    static void promise23ChangesWithWhichNothingIsDifferent() {
        PuddleMinistries x = new PuddleMinistries();
        dueChange("set", x.set(0, 3), 3, x);
        dueChange("brim", x.brim(0, 20), 20, x);
        dueChange("drain", x.drain(0), 0, x);
        dueChange("shoes", x.shoes(0, 0), 0, x);
        dueChange("pay", x.pay(0), 0, x);
        dueChange("sun", x.pass(0), 0, x);
        x.put('s');
        dueChange("read", x.read(), 0, x);
        x.save(0);
        dueChange("restore", x.restore(0), 0, x);
    }

    static void promise23PermitWithWhichNothingIsDifferent() {
        PuddleMinistries x = new PuddleMinistries();
        x.permit(0, 0);
        due("permit", x.permit(0, 0), 1);
        due("it is recorded", x.count(15), 2);
        due("undo", x.undo(), 1);
        due("the first one stands", x.holds(0, 0), 5);
    }

    static void promise23WalkWithWhichNothingIsDifferent() {
        PuddleMinistries x = new PuddleMinistries();
        x.pass(5);
        x.pass(10);
        due("walk", x.walk(0, 0, 11), 0);
        due("it is recorded", x.count(15), 3);
        due("undo", x.undo(), 2);
        due("the ice stands", x.count(9), Streets.ALL);
    }

    static void promise23WeatherWithWhichNothingIsDifferent() {
        PuddleMinistries x = new PuddleMinistries();
        x.pass(10);
        due("frost", x.pass(10), 0);
        due("rain on ice", x.pass(9), 0);
        due("they are recorded", x.count(15), 3);
        x.undo();
        x.undo();
        due("the ice stands", x.count(9), Streets.ALL);
        x.undo();
        due("the ice is undone", x.count(9), 0);
    }

    static void promise23NothingDifferentDropsTheOldestToo() {
        PuddleMinistries x = changed(6);
        due("pay", x.pay(0), 0);
        for (int left = 5; left >= 0; left--) due("undo", x.undo(), left);
        due("brim", x.puddle(0, 0), 31);
    }

    static void promise23WhatIsNoChangeIsNotRecorded() {
        PuddleMinistries x = new PuddleMinistries();
        x.put('s');
        x.wipe();
        x.fault();
        x.save(0);
        x.cost(0, 0, 0, 0);
        x.untilDry(0);
        x.leastShoes(0);
        x.longestWalk(0, 0);
        due("changes", x.count(15), 0);
    }

    static void promise23ErrorsAreNotRecorded() {
        PuddleMinistries x = changed(6);
        x.set(4, 0);
        x.brim(0, 0);
        x.read();
        x.restore(1);
        due("changes", x.count(15), 6);
        for (int left = 5; left >= 0; left--) x.undo();
        due("the oldest one is there still", x.puddle(0, 0), 20);
    }

    static void promise23ThePadIsNotUndone() {
        PuddleMinistries x = changed(1);
        x.put('r');
        due("undo", x.undo(), 0);
        due("the pad stays", x.count(14), 1);
        due("fault", x.fault(), 1);
        x.put('2');
        due("read", x.read(), 24);
        due("undo of read", x.undo(), 0);
        due("water", x.count(5), 0);
        due("the pad does not come back", x.count(14), 0);
    }

    static void promise23SlotsAreNotUndone() {
        PuddleMinistries x = changed(3);
        x.save(0);
        x.undo();
        x.undo();
        x.undo();
        due("brim", x.puddle(0, 0), 20);
        x.restore(0);
        due("brim", x.puddle(0, 0), 33);
        x.undo();
        due("brim", x.puddle(0, 0), 20);
        x.restore(0);
        due("the slot keeps it", x.puddle(0, 0), 33);
    }

    // ---- save

    static void promise24FirstAndLastSlot() {
        PuddleMinistries x = new PuddleMinistries();
        due("save 0", x.save(0), 0);
        x.pass(11);
        due("save 1", x.save(1), 1);
        due("restore 0", x.restore(0), 0);
        due("restore 1", x.restore(1), 1);
    }

    static void promise24NoSlotBelow0OrAbove1() {
        PuddleMinistries x = new PuddleMinistries();
        for (int slot : new int[] {-1, 2, 32, Integer.MIN_VALUE, Integer.MAX_VALUE}) {
            due("save " + slot, x.save(slot), BAD_VALUE);
        }
        due("nothing is saved", x.restore(0), NOT_POSSIBLE);
        due("nothing is saved", x.restore(1), NOT_POSSIBLE);
    }

    static void promise24OverwritesASlot() {
        PuddleMinistries x = new PuddleMinistries();
        x.brim(0, 1);
        x.save(0);
        x.brim(0, 2);
        x.save(0);
        x.brim(0, 3);
        x.restore(0);
        due("the latest one", x.puddle(0, 0), 2);
    }

    static void promise24LeavesTheOtherSlot() {
        PuddleMinistries x = new PuddleMinistries();
        x.brim(0, 1);
        x.save(1);
        x.brim(0, 2);
        x.save(0);
        x.brim(0, 3);
        x.restore(1);
        due("the other one", x.puddle(0, 0), 1);
    }

    static void promise24IsNoChange() {
        PuddleMinistries x = changed(1);
        x.save(0);
        due("changes", x.count(15), 1);
        due("undo", x.undo(), 0);
    }

    static void promise24LaterChangesDoNotReachTheSlot() {
        PuddleMinistries x = Streets.holding(20, 5);
        x.walk(0, 1, 1);
        x.permit(0, 0);
        x.save(0);
        String saved = ModelTest.stateOf(x);
        x.pass(11);
        x.pass(0);
        x.pass(9);
        x.pay(0);
        x.drain(1);
        x.shoes(0, 3);
        x.restore(0);
        Checks.due("all is as it was saved", saved.equals(ModelTest.stateOf(x)));
    }

    static void promise24ThePadIsNotSaved() {
        PuddleMinistries x = new PuddleMinistries();
        Checks.putAll(x, "sss");
        x.save(0);
        x.wipe();
        x.put('d');
        x.restore(0);
        due("the pad's length", x.count(14), 1);
        due("read", x.read(), 0);
        due("days", x.count(4), 1);
    }

    static void promise24TheHistoryIsNotSaved() {
        PuddleMinistries x = changed(2);
        x.save(0);
        x.undo();
        x.undo();
        x.restore(0);
        due("changes", x.count(15), 1);
        x.undo();
        due("the state before the restoring", x.puddle(0, 0), 20);
        due("no more", x.undo(), NOT_POSSIBLE);
    }

    // ---- restore

    static void promise25EmptySlot() {
        PuddleMinistries x = changed(1);
        due("restore 0", x.restore(0), NOT_POSSIBLE);
        due("restore 1", x.restore(1), NOT_POSSIBLE);
        due("brim", x.puddle(0, 0), 31);
        due("changes", x.count(15), 1);
    }

    static void promise25EmptySlotNextToOneThatIsNot() {
        PuddleMinistries x = new PuddleMinistries(), y = new PuddleMinistries();
        x.save(0);
        due("restore 1", x.restore(1), NOT_POSSIBLE);
        y.save(1);
        due("restore 0", y.restore(0), NOT_POSSIBLE);
    }

    static void promise25NoSlotBelow0OrAbove1() {
        PuddleMinistries x = new PuddleMinistries();
        x.save(0);
        x.save(1);
        for (int slot : new int[] {-1, 2, 32, Integer.MIN_VALUE, Integer.MAX_VALUE}) {
            due("restore " + slot, x.restore(slot), BAD_VALUE);
        }
    }

    static void promise25RestoredTwice() {
        PuddleMinistries x = changed(1);
        x.pass(11);
        x.save(0);
        x.brim(0, 40);
        x.pass(11);
        due("restore", x.restore(0), 1);
        due("brim", x.puddle(0, 0), 31);
        x.brim(0, 50);
        x.pass(11);
        due("restore again", x.restore(0), 1);
        due("brim", x.puddle(0, 0), 31);
        due("restore at once again", x.restore(0), 1);
        due("brim", x.puddle(0, 0), 31);
    }

    static void promise25IsAChange() {
        PuddleMinistries x = new PuddleMinistries();
        x.save(0);
        x.pass(11);
        x.restore(0);
        due("changes", x.count(15), 2);
        due("undo", x.undo(), 1);
        due("days", x.count(4), 1);
    }

    static void promise25OnAFullHistoryDropsTheOldest() {
        PuddleMinistries x = changed(6);
        x.save(0);
        x.restore(0);
        due("changes", x.count(15), 6);
        for (int left = 5; left >= 0; left--) due("undo", x.undo(), left);
        due("brim", x.puddle(0, 0), 31);
    }

    static void promise25StateOfTheFirstDay() {
        PuddleMinistries x = new PuddleMinistries();
        String first = ModelTest.stateOf(x);
        x.save(1);
        x.set(1, 20);
        x.pass(9);
        x.pass(9);
        x.permit(0, 0);
        x.walk(0, 0, 11);
        x.pass(11);
        due("restore", x.restore(1), 0);
        Checks.due("all is as at first", first.equals(ModelTest.stateOf(x)));
    }

    static void promise25ThePadStays() {
        PuddleMinistries x = new PuddleMinistries();
        x.save(0);
        Checks.putAll(x, "r1");
        x.restore(0);
        due("read", x.read(), 12);
    }
}
