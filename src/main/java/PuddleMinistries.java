/** A street of puddles, its weather, and the walkers who cross it. README.md says how to use it. */
public final class PuddleMinistries {
    public static final int NO_SUCH = -1, BAD_VALUE = -2, BAD_TEXT = -3, TOO_MANY = -4, NOT_POSSIBLE = -5, NONE = -6;
    public static final int DUTY = 0, SUN = 1, DUCKS = 2, KEEPS = 3;

    private static final int PUDDLES = 12, WALKERS = 6, SETTINGS = 4, SLOTS = 2;
    private static final int FIRST_BRIM = 20, MOST_BRIM = 60, MOST_SHOES = 3, MOST_DAYS = 9999;
    private static final int WATER_PER_DEPTH = 5, DEEP_FOR_FROST = 4;
    private static final int SUNNY = 0, MOST_RAIN = 9, FROSTY = 10, DAY_ENDS = 11, NO_WEATHER = -1;
    private static final int ALLOWED = 0, DUCKS_THERE = 1, TOO_DEEP = 2, THIN_ICE = 3;
    private static final int BY_STEPS = 0, BY_BLOCK = 1;
    private static final int STATES_KEPT = 6;

    private static final int[] FIRST_SETTING = {3, 2, 15, 5};
    private static final int[] LEAST_SETTING = {0, 0, 1, 1};
    private static final int[] MOST_SETTING = {20, 20, 99, 30};

    private final Street street = new Street();
    private final Pad pad = new Pad();
    private final History history = new History();
    private final Slots slots = new Slots();

    public PuddleMinistries() {
    }

    // ---- changes

    public int set(int setting, int value) {
        if (setting < 0 || setting >= SETTINGS) return BAD_VALUE;
        if (value < LEAST_SETTING[setting] || value > MOST_SETTING[setting]) return BAD_VALUE;
        history.record(street);
        int previous = street.settings[setting];
        street.settings[setting] = value;
        return previous;
    }

    public int brim(int puddle, int brim) {
        if (!isPuddle(puddle)) return NO_SUCH;
        if (brim < 1 || brim > MOST_BRIM) return BAD_VALUE;
        history.record(street);
        int previous = street.brims[puddle];
        street.brims[puddle] = brim;
        street.drainDownTo(puddle, brim);
        return previous;
    }

    public int drain(int puddle) {
        if (!isPuddle(puddle)) return NO_SUCH;
        if (street.hasDucks(puddle)) return NOT_POSSIBLE;
        history.record(street);
        int had = street.waters[puddle];
        street.drainDownTo(puddle, 0);
        street.thaw(puddle);
        return had;
    }

    public int shoes(int walker, int shoes) {
        if (!isWalker(walker)) return NO_SUCH;
        if (shoes < 0 || shoes > MOST_SHOES) return BAD_VALUE;
        history.record(street);
        int previous = street.shoesOf[walker];
        street.shoesOf[walker] = shoes;
        return previous;
    }

    public int permit(int walker, int puddle) {
        if (!isWalker(walker) || !isPuddle(puddle)) return NO_SUCH;
        if (street.hasDucks(puddle)) return NOT_POSSIBLE;
        history.record(street);
        street.permitDays[placeOf(walker, puddle)] = street.settings[KEEPS];
        return Integer.bitCount(street.permitsOf(walker));
    }

    public int walk(int walker, int from, int to) {
        if (!isWalker(walker) || !isPuddle(from) || !isPuddle(to)) return NO_SUCH;
        history.record(street);
        int crossed = street.stepsUntilBlocked(walker, from, to);
        for (int step = 0; step < crossed; step++) street.cross(walker, placeAfter(step, from, to));
        return crossed;
    }

    public int pay(int walker) {
        if (!isWalker(walker)) return NO_SUCH;
        history.record(street);
        int coins = street.owedBy[walker];
        street.owedBy[walker] = 0;
        street.paidBy[walker] += coins;
        return coins;
    }

    public int pass(int weather) {
        if (weather < SUNNY || weather > DAY_ENDS) return BAD_VALUE;
        if (weather == DAY_ENDS && street.days >= MOST_DAYS) return TOO_MANY;
        history.record(street);
        street.letPass(weather);
        return sum(street.waters);
    }

    public int read() {
        if (pad.findFault() != NONE) return BAD_TEXT;
        if (street.days + pad.daysTold() > MOST_DAYS) return TOO_MANY;
        history.record(street);
        for (int at = 0; at < pad.length; at++) street.letPass(pad.weatherAt(at));
        pad.length = 0;
        return sum(street.waters);
    }

    // ---- what there is; nothing changes

    public int puddle(int puddle, int what) {
        if (!isPuddle(puddle)) return NO_SUCH;
        switch (what) {
            case 0: return street.brims[puddle];
            case 1: return street.waters[puddle];
            case 2: return street.depth(puddle);
            case 3: return street.isFrozen(puddle) ? 1 : 0;
            case 4: return street.hasDucks(puddle) ? 1 : 0;
            case 5: return street.crossingsOf[puddle];
            case 6: return street.permitHoldersAt(puddle);
            default: return BAD_VALUE;
        }
    }

    public int walker(int walker, int what) {
        if (!isWalker(walker)) return NO_SUCH;
        switch (what) {
            case 0: return street.shoesOf[walker];
            case 1: return street.owedBy[walker];
            case 2: return street.paidBy[walker];
            case 3: return street.crossedBy[walker];
            case 4: return street.permitsOf(walker);
            case 5: return street.allowedFor(walker);
            default: return BAD_VALUE;
        }
    }

    public int why(int walker, int puddle) {
        if (!isWalker(walker) || !isPuddle(puddle)) return NO_SUCH;
        return street.reasonAgainst(walker, puddle, street.shoesOf[walker]);
    }

    public int holds(int walker, int puddle) {
        if (!isWalker(walker) || !isPuddle(puddle)) return NO_SUCH;
        int days = street.permitDays[placeOf(walker, puddle)];
        return days > 0 ? days : NONE;
    }

    public int count(int what) {
        if (what >= 0 && what < SETTINGS) return street.settings[what];
        switch (what) {
            case 4: return street.days;
            case 5: return sum(street.waters);
            case 6: return street.fell;
            case 7: return street.dried;
            case 8: return street.drained;
            case 9: return street.frozenSet;
            case 10: return street.ducksSet;
            case 11: return street.allPermits();
            case 12: return sum(street.owedBy);
            case 13: return sum(street.paidBy);
            case 14: return pad.length;
            case 15: return history.size;
            default: return BAD_VALUE;
        }
    }

    // ---- what if; nothing changes

    public int cost(int walker, int from, int to, int way) {
        if (!isWalker(walker) || !isPuddle(from) || !isPuddle(to)) return NO_SUCH;
        if (way == BY_STEPS) return street.costBySteps(walker, from, to);
        if (way == BY_BLOCK) return street.costByBlock(walker, from, to);
        return BAD_VALUE;
    }

    public int untilDry(int puddle) {
        if (!isPuddle(puddle)) return NO_SUCH;
        int water = street.waters[puddle], sun = street.settings[SUN];
        if (water == 0) return 0;
        if (sun <= 0) return NONE;
        int dryingHours = (water + sun - 1) / sun;
        return street.isFrozen(puddle) ? dryingHours + 1 : dryingHours;
    }

    public int leastShoes(int walker) {
        if (!isWalker(walker)) return NO_SUCH;
        for (int shoes = 0; shoes <= MOST_SHOES; shoes++) {
            if (street.allowsAllWith(walker, shoes)) return shoes;
        }
        return NONE;
    }

    public int longestWalk(int walker, int what) {
        if (!isWalker(walker)) return NO_SUCH;
        if (what != 0 && what != 1) return BAD_VALUE;
        int allowed = street.allowedFor(walker), row = 0, longest = 0, first = NONE;
        for (int puddle = 0; puddle < PUDDLES; puddle++) {
            row = isIn(allowed, puddle) ? row + 1 : 0;
            if (row > longest) {
                longest = row;
                first = puddle - row + 1;
            }
        }
        return what == 0 ? longest : first;
    }

    // ---- texts

    public int put(long characters) {
        int more = Pad.charactersIn(characters);
        if (more == 0) return BAD_VALUE;
        if (pad.length + more > Pad.MOST) return TOO_MANY;
        pad.append(characters, more);
        return pad.length;
    }

    public int wipe() {
        int had = pad.length;
        pad.length = 0;
        return had;
    }

    public int fault() {
        return pad.findFault();
    }

    // ---- undo, saving

    public int undo() {
        if (history.size == 0) return NOT_POSSIBLE;
        history.takeBack(street);
        return history.size;
    }

    public int save(int slot) {
        if (slot < 0 || slot >= SLOTS) return BAD_VALUE;
        slots.kept[slot].copyFrom(street);
        slots.used[slot] = true;
        return street.days;
    }

    public int restore(int slot) {
        if (slot < 0 || slot >= SLOTS) return BAD_VALUE;
        if (!slots.used[slot]) return NOT_POSSIBLE;
        history.record(street);
        street.copyFrom(slots.kept[slot]);
        return street.days;
    }

    private static boolean isPuddle(int puddle) {
        return puddle >= 0 && puddle < PUDDLES;
    }

    private static boolean isWalker(int walker) {
        return walker >= 0 && walker < WALKERS;
    }

    private static boolean isIn(int bits, int member) {
        return (bits >> member & 1) == 1;
    }

    private static int placeOf(int walker, int puddle) {
        return walker * PUDDLES + puddle;
    }

    private static int placeAfter(int steps, int from, int to) {
        return from <= to ? from + steps : from - steps;
    }

    private static int sum(int[] numbers) {
        int sum = 0;
        for (int number : numbers) sum += number;
        return sum;
    }

    private static void copy(int[] from, int[] to) {
        for (int i = 0; i < from.length && i < to.length; i++) to[i] = from[i];
    }

    /** All that undo and the slots bring back, in one class, so that one copy takes the whole of it. */
    private static final class Street {
        final int[] settings = new int[SETTINGS];
        final int[] brims = new int[PUDDLES];
        final int[] waters = new int[PUDDLES];
        final int[] crossingsOf = new int[PUDDLES];
        final int[] shoesOf = new int[WALKERS];
        final int[] owedBy = new int[WALKERS];
        final int[] paidBy = new int[WALKERS];
        final int[] crossedBy = new int[WALKERS];
        final int[] permitDays = new int[WALKERS * PUDDLES];
        int frozenSet, ducksSet;
        int days, fell, dried, drained;

        Street() {
            for (int setting = 0; setting < SETTINGS; setting++) settings[setting] = FIRST_SETTING[setting];
            for (int puddle = 0; puddle < PUDDLES; puddle++) brims[puddle] = FIRST_BRIM;
        }

        void copyFrom(Street other) {
            copy(other.settings, settings);
            copy(other.brims, brims);
            copy(other.waters, waters);
            copy(other.crossingsOf, crossingsOf);
            copy(other.shoesOf, shoesOf);
            copy(other.owedBy, owedBy);
            copy(other.paidBy, paidBy);
            copy(other.crossedBy, crossedBy);
            copy(other.permitDays, permitDays);
            frozenSet = other.frozenSet;
            ducksSet = other.ducksSet;
            days = other.days;
            fell = other.fell;
            dried = other.dried;
            drained = other.drained;
        }

        int depth(int puddle) {
            return waters[puddle] / WATER_PER_DEPTH;
        }

        boolean isFrozen(int puddle) {
            return isIn(frozenSet, puddle);
        }

        boolean hasDucks(int puddle) {
            return isIn(ducksSet, puddle);
        }

        void thaw(int puddle) {
            frozenSet &= ~(1 << puddle);
        }

        void drainDownTo(int puddle, int level) {
            int above = waters[puddle] - level;
            if (above <= 0) return;
            waters[puddle] = level;
            drained += above;
        }

        void letPass(int weather) {
            if (weather == SUNNY) shine();
            else if (weather == FROSTY) freeze();
            else if (weather == DAY_ENDS) endDay();
            else if (weather > SUNNY && weather <= MOST_RAIN) rain(weather);
        }

        void rain(int amount) {
            int running = 0;
            for (int puddle = 0; puddle < PUDDLES; puddle++) {
                if (isFrozen(puddle)) {
                    drained += running;
                    running = 0;
                    continue;
                }
                fell += amount;
                int water = waters[puddle] + amount + running;
                waters[puddle] = Math.min(water, brims[puddle]);
                running = water - waters[puddle];
            }
            drained += running;
        }

        void shine() {
            for (int puddle = 0; puddle < PUDDLES; puddle++) {
                if (isFrozen(puddle)) continue;
                int lost = Math.min(waters[puddle], settings[SUN]);
                waters[puddle] -= lost;
                dried += lost;
            }
            frozenSet = 0;
        }

        void freeze() {
            for (int puddle = 0; puddle < PUDDLES; puddle++) {
                if (depth(puddle) < DEEP_FOR_FROST) frozenSet |= 1 << puddle;
            }
        }

        void endDay() {
            ducksSet = 0;
            for (int puddle = 0; puddle < PUDDLES; puddle++) {
                if (isFrozen(puddle)) continue;
                if (waters[puddle] >= settings[DUCKS]) ducksSet |= 1 << puddle;
                agePermitsAt(puddle);
            }
            days++;
        }

        void agePermitsAt(int puddle) {
            for (int walker = 0; walker < WALKERS; walker++) {
                int place = placeOf(walker, puddle);
                if (permitDays[place] > 0) permitDays[place]--;
            }
        }

        boolean hasPermit(int walker, int puddle) {
            return permitDays[placeOf(walker, puddle)] > 0;
        }

        int permitsOf(int walker) {
            int bits = 0;
            for (int puddle = 0; puddle < PUDDLES; puddle++) {
                if (hasPermit(walker, puddle)) bits |= 1 << puddle;
            }
            return bits;
        }

        int permitHoldersAt(int puddle) {
            int bits = 0;
            for (int walker = 0; walker < WALKERS; walker++) {
                if (hasPermit(walker, puddle)) bits |= 1 << walker;
            }
            return bits;
        }

        int allPermits() {
            int number = 0;
            for (int walker = 0; walker < WALKERS; walker++) number += Integer.bitCount(permitsOf(walker));
            return number;
        }

        // The shoes are told apart from the walker, so that shoes that it does not wear can be asked about.
        int reasonAgainst(int walker, int puddle, int shoes) {
            if (hasDucks(puddle)) return DUCKS_THERE;
            if (hasPermit(walker, puddle)) return ALLOWED;
            int depth = depth(puddle);
            if (isFrozen(puddle)) return depth >= 1 ? THIN_ICE : ALLOWED;
            return depth > depthKeptOut(shoes) ? TOO_DEEP : ALLOWED;
        }

        static int depthKeptOut(int shoes) {
            return 1 + 2 * shoes;
        }

        boolean mayCross(int walker, int puddle) {
            return reasonAgainst(walker, puddle, shoesOf[walker]) == ALLOWED;
        }

        int allowedFor(int walker) {
            int bits = 0;
            for (int puddle = 0; puddle < PUDDLES; puddle++) {
                if (mayCross(walker, puddle)) bits |= 1 << puddle;
            }
            return bits;
        }

        boolean allowsAllWith(int walker, int shoes) {
            for (int puddle = 0; puddle < PUDDLES; puddle++) {
                if (reasonAgainst(walker, puddle, shoes) != ALLOWED) return false;
            }
            return true;
        }

        int dutyAt(int puddle) {
            return isFrozen(puddle) ? 0 : settings[DUTY] * depth(puddle);
        }

        void cross(int walker, int puddle) {
            owedBy[walker] += dutyAt(puddle);
            crossedBy[walker]++;
            crossingsOf[puddle]++;
        }

        int stepsUntilBlocked(int walker, int from, int to) {
            int steps = Math.abs(to - from) + 1;
            for (int step = 0; step < steps; step++) {
                if (!mayCross(walker, placeAfter(step, from, to))) return step;
            }
            return steps;
        }

        int costBySteps(int walker, int from, int to) {
            int steps = Math.abs(to - from) + 1, coins = 0;
            for (int step = 0; step < steps; step++) {
                int puddle = placeAfter(step, from, to);
                if (!mayCross(walker, puddle)) return coins;
                coins += dutyAt(puddle);
            }
            return coins;
        }

        int costByBlock(int walker, int from, int to) {
            int steps = stepsUntilBlocked(walker, from, to), coins = 0;
            for (int step = 0; step < steps; step++) coins += dutyAt(placeAfter(step, from, to));
            return coins;
        }
    }

    /** The text from which weather is read. */
    private static final class Pad {
        static final int MOST = 60, MOST_AT_ONCE = 8, LOWEST_CODE = 33, HIGHEST_CODE = 126;
        final char[] signs = new char[MOST];
        int length;

        // 0 stands for every fault, as no text of no characters is taken either.
        static int charactersIn(long characters) {
            long rest = characters;
            int number = 0;
            while (number < MOST_AT_ONCE && (rest & 255) != 0) {
                long code = rest & 255;
                if (code < LOWEST_CODE || code > HIGHEST_CODE) return 0;
                rest >>>= 8;
                number++;
            }
            return rest == 0 ? number : 0;
        }

        void append(long characters, int number) {
            for (int behind = number - 1; behind >= 0 && length < MOST; behind--) {
                signs[length] = (char) (characters >>> 8 * behind & 255);
                length++;
            }
        }

        int findFault() {
            boolean amountDue = false;
            for (int at = 0; at < length; at++) {
                char sign = signs[at];
                if (amountDue ? !isAmount(sign) : !beginsHour(sign)) return at;
                amountDue = sign == 'r';
            }
            return amountDue || length == 0 ? length : NONE;
        }

        static boolean isAmount(char sign) {
            return sign >= '1' && sign <= '9';
        }

        static boolean beginsHour(char sign) {
            return sign == 'r' || sign == 's' || sign == 'f' || sign == 'd';
        }

        // In a text without fault each digit is an hour of rain, and its 'r' adds nothing to it.
        int weatherAt(int at) {
            char sign = signs[at];
            if (isAmount(sign)) return sign - '0';
            if (sign == 's') return SUNNY;
            if (sign == 'f') return FROSTY;
            return sign == 'd' ? DAY_ENDS : NO_WEATHER;
        }

        int daysTold() {
            int days = 0;
            for (int at = 0; at < length; at++) {
                if (weatherAt(at) == DAY_ENDS) days++;
            }
            return days;
        }
    }

    /** The states before the latest changes, oldest first, in streets that are made once and used again. */
    private static final class History {
        final Street[] kept = new Street[STATES_KEPT];
        int size;

        History() {
            for (int i = 0; i < STATES_KEPT; i++) kept[i] = new Street();
        }

        void record(Street street) {
            if (size >= STATES_KEPT) dropOldest();
            kept[size].copyFrom(street);
            size++;
        }

        void dropOldest() {
            Street oldest = kept[0];
            for (int i = 1; i < STATES_KEPT; i++) kept[i - 1] = kept[i];
            kept[STATES_KEPT - 1] = oldest;
            size = STATES_KEPT - 1;
        }

        void takeBack(Street street) {
            if (size <= 0) return;
            size--;
            street.copyFrom(kept[size]);
        }
    }

    private static final class Slots {
        final Street[] kept = new Street[SLOTS];
        final boolean[] used = new boolean[SLOTS];

        Slots() {
            for (int i = 0; i < SLOTS; i++) kept[i] = new Street();
        }
    }
}
