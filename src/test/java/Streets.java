/** Streets with which a test begins. */
final class Streets {
    static final int ALL = 4095;
    /** Numbers that no puddle and no walker has; 32 and its like would be 0 again in a shift. */
    static final int[] FAR = {Integer.MIN_VALUE, -32, -6, -1, 12, 32, 256, Integer.MAX_VALUE};

    private Streets() {
    }

    /** These waters stand in the puddles from 0 on, the others are dry; each brim is 60. It takes 43 calls. */
    static PuddleMinistries holding(int... waters) {
        PuddleMinistries x = new PuddleMinistries();
        setBrims(x, 60);
        for (int hour = 0; hour < 7; hour++) x.pass(9);
        for (int puddle = 0; puddle < 12; puddle++) {
            int water = puddle < waters.length ? waters[puddle] : 0;
            if (water == 0) x.drain(puddle);
            else x.brim(puddle, water);
        }
        setBrims(x, 60);
        return x;
    }

    /** The same on ice, where frost can make it: each puddle with less than 20 of water is frozen. */
    static PuddleMinistries frozen(int... waters) {
        PuddleMinistries x = holding(waters);
        x.pass(10);
        return x;
    }

    /** Ducks are at each puddle with 15 of water or more. */
    static PuddleMinistries withDucks(int... waters) {
        PuddleMinistries x = holding(waters);
        x.pass(11);
        return x;
    }

    static void setBrims(PuddleMinistries x, int brim) {
        for (int puddle = 0; puddle < 12; puddle++) x.brim(puddle, brim);
    }

    static void pass(PuddleMinistries x, int weather, int hours) {
        for (int hour = 0; hour < hours; hour++) x.pass(weather);
    }
}
