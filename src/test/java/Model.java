import java.util.ArrayDeque;
import java.util.Deque;
import java.util.HashMap;
import java.util.Map;
import java.util.regex.Matcher;
import java.util.regex.Pattern;

/** The document told a second time, with other means than the program's, to be compared with it. */
final class Model {
    private static final Pattern GOOD_START = Pattern.compile("(r[1-9]|[sfd])*r?");

    private World world = new World();
    private String pad = "";
    private final Deque<World> history = new ArrayDeque<>();
    private final Map<Integer, World> slots = new HashMap<>();

    private static final class Puddle {
        int brim = 20, water, crossed;
        boolean frozen, ducks;

        Puddle copy() {
            Puddle copy = new Puddle();
            copy.brim = brim;
            copy.water = water;
            copy.crossed = crossed;
            copy.frozen = frozen;
            copy.ducks = ducks;
            return copy;
        }
    }

    private static final class Walker {
        int shoes, owes, paid, crossed;
        Map<Integer, Integer> permits = new HashMap<>();

        Walker copy() {
            Walker copy = new Walker();
            copy.shoes = shoes;
            copy.owes = owes;
            copy.paid = paid;
            copy.crossed = crossed;
            copy.permits = new HashMap<>(permits);
            return copy;
        }
    }

    private static final class World {
        int duty = 3, sun = 2, ducks = 15, keeps = 5;
        int days, fell, dried, drained;
        Puddle[] puddles = new Puddle[12];
        Walker[] walkers = new Walker[6];

        World() {
            for (int i = 0; i < 12; i++) puddles[i] = new Puddle();
            for (int i = 0; i < 6; i++) walkers[i] = new Walker();
        }

        World copy() {
            World copy = new World();
            copy.duty = duty;
            copy.sun = sun;
            copy.ducks = ducks;
            copy.keeps = keeps;
            copy.days = days;
            copy.fell = fell;
            copy.dried = dried;
            copy.drained = drained;
            for (int i = 0; i < 12; i++) copy.puddles[i] = puddles[i].copy();
            for (int i = 0; i < 6; i++) copy.walkers[i] = walkers[i].copy();
            return copy;
        }
    }

    private void record() {
        history.addLast(world.copy());
        if (history.size() > 6) history.removeFirst();
    }

    private static boolean among(int number, int howMany) {
        return 0 <= number && number < howMany;
    }

    private int water() {
        int water = 0;
        for (Puddle puddle : world.puddles) water += puddle.water;
        return water;
    }

    int set(int setting, int value) {
        int previous;
        if (setting == 0 && value >= 0 && value <= 20) {
            record();
            previous = world.duty;
            world.duty = value;
        } else if (setting == 1 && value >= 0 && value <= 20) {
            record();
            previous = world.sun;
            world.sun = value;
        } else if (setting == 2 && value >= 1 && value <= 99) {
            record();
            previous = world.ducks;
            world.ducks = value;
        } else if (setting == 3 && value >= 1 && value <= 30) {
            record();
            previous = world.keeps;
            world.keeps = value;
        } else {
            previous = -2;
        }
        return previous;
    }

    int brim(int number, int brim) {
        if (!among(number, 12)) return -1;
        if (!among(brim - 1, 60)) return -2;
        record();
        Puddle puddle = world.puddles[number];
        int previous = puddle.brim;
        puddle.brim = brim;
        while (puddle.water > puddle.brim) {
            puddle.water--;
            world.drained++;
        }
        return previous;
    }

    int drain(int number) {
        if (!among(number, 12)) return -1;
        if (world.puddles[number].ducks) return -5;
        record();
        Puddle puddle = world.puddles[number];
        int water = puddle.water;
        world.drained += water;
        puddle.water = 0;
        puddle.frozen = false;
        return water;
    }

    int shoes(int walker, int shoes) {
        if (!among(walker, 6)) return -1;
        if (!among(shoes, 4)) return -2;
        record();
        int previous = world.walkers[walker].shoes;
        world.walkers[walker].shoes = shoes;
        return previous;
    }

    int permit(int walker, int puddle) {
        if (!among(walker, 6) || !among(puddle, 12)) return -1;
        if (world.puddles[puddle].ducks) return -5;
        record();
        world.walkers[walker].permits.put(puddle, world.keeps);
        return world.walkers[walker].permits.size();
    }

    int walk(int walker, int from, int to) {
        if (!among(walker, 6) || !among(from, 12) || !among(to, 12)) return -1;
        record();
        int before = world.walkers[walker].crossed;
        int at = from;
        while (why(walker, at) == 0) {
            Puddle puddle = world.puddles[at];
            puddle.crossed++;
            world.walkers[walker].crossed++;
            if (!puddle.frozen) world.walkers[walker].owes += world.duty * (puddle.water / 5);
            if (at == to) break;
            at += Integer.signum(to - from);
        }
        return world.walkers[walker].crossed - before;
    }

    int pay(int walker) {
        if (!among(walker, 6)) return -1;
        record();
        int coins = world.walkers[walker].owes;
        world.walkers[walker].paid += coins;
        world.walkers[walker].owes -= coins;
        return coins;
    }

    int pass(int weather) {
        if (!among(weather, 12)) return -2;
        if (weather == 11 && world.days + 1 > 9999) return -4;
        record();
        let(weather);
        return water();
    }

    private void let(int weather) {
        if (weather == 0) {
            for (Puddle puddle : world.puddles) {
                for (int drop = 0; drop < world.sun && puddle.water > 0 && !puddle.frozen; drop++) {
                    puddle.water--;
                    world.dried++;
                }
                puddle.frozen = false;
            }
        } else if (weather == 10) {
            for (Puddle puddle : world.puddles) puddle.frozen |= puddle.water / 5 < 4;
        } else if (weather == 11) {
            for (Puddle puddle : world.puddles) puddle.ducks = !puddle.frozen && puddle.water >= world.ducks;
            world.days++;
            for (Walker walker : world.walkers) {
                for (int puddle = 0; puddle < 12; puddle++) {
                    if (!world.puddles[puddle].frozen) walker.permits.computeIfPresent(puddle, (p, d) -> d == 1 ? null : d - 1);
                }
            }
        } else {
            for (int i = 0; i < 12; i++) {
                if (world.puddles[i].frozen) continue;
                world.fell += weather;
                for (int drop = 0; drop < weather; drop++) dropFrom(i);
            }
        }
    }

    /** Each drop runs down by itself: where the drops of an hour end does not depend on their order. */
    private void dropFrom(int start) {
        for (int i = start; i < 12 && !world.puddles[i].frozen; i++) {
            if (world.puddles[i].water < world.puddles[i].brim) {
                world.puddles[i].water++;
                return;
            }
        }
        world.drained++;
    }

    int read() {
        if (fault() != -6) return -3;
        Matcher hours = Pattern.compile("r(.)|([sfd])").matcher(pad);
        if (world.days + pad.replaceAll("[^d]", "").length() > 9999) return -4;
        record();
        while (hours.find()) {
            if (hours.group(1) != null) let(Integer.parseInt(hours.group(1)));
            else let(hours.group(2).equals("s") ? 0 : hours.group(2).equals("f") ? 10 : 11);
        }
        pad = "";
        return water();
    }

    int puddle(int number, int what) {
        if (!among(number, 12)) return -1;
        if (!among(what, 7)) return -2;
        Puddle puddle = world.puddles[number];
        int holders = 0;
        for (int walker = 5; walker >= 0; walker--) {
            holders = 2 * holders + (world.walkers[walker].permits.containsKey(number) ? 1 : 0);
        }
        return new int[] {puddle.brim, puddle.water, puddle.water / 5, puddle.frozen ? 1 : 0, puddle.ducks ? 1 : 0,
            puddle.crossed, holders}[what];
    }

    int walker(int number, int what) {
        if (!among(number, 6)) return -1;
        if (!among(what, 6)) return -2;
        Walker walker = world.walkers[number];
        int permits = 0, may = 0;
        for (int puddle = 11; puddle >= 0; puddle--) {
            permits = 2 * permits + (walker.permits.containsKey(puddle) ? 1 : 0);
            may = 2 * may + (why(number, puddle) == 0 ? 1 : 0);
        }
        return new int[] {walker.shoes, walker.owes, walker.paid, walker.crossed, permits, may}[what];
    }

    int why(int walker, int puddle) {
        if (!among(walker, 6) || !among(puddle, 12)) return -1;
        return why(walker, puddle, new int[] {1, 3, 5, 7}[world.walkers[walker].shoes]);
    }

    private int why(int walker, int number, int keptOut) {
        Puddle puddle = world.puddles[number];
        boolean permit = world.walkers[walker].permits.containsKey(number);
        if (puddle.ducks) return 1;
        if (puddle.water / 5 > keptOut && !puddle.frozen && !permit) return 2;
        if (puddle.frozen && puddle.water / 5 >= 1 && !permit) return 3;
        return 0;
    }

    int holds(int walker, int puddle) {
        if (!among(walker, 6) || !among(puddle, 12)) return -1;
        return world.walkers[walker].permits.getOrDefault(puddle, -6);
    }

    int count(int what) {
        if (!among(what, 16)) return -2;
        int frozen = 0, ducks = 0, permits = 0, owed = 0, paid = 0;
        for (int puddle = 11; puddle >= 0; puddle--) {
            frozen = 2 * frozen + (world.puddles[puddle].frozen ? 1 : 0);
            ducks = 2 * ducks + (world.puddles[puddle].ducks ? 1 : 0);
        }
        for (Walker walker : world.walkers) {
            permits += walker.permits.size();
            owed += walker.owes;
            paid += walker.paid;
        }
        return new int[] {world.duty, world.sun, world.ducks, world.keeps, world.days, water(), world.fell, world.dried,
            world.drained, frozen, ducks, permits, owed, paid, pad.length(), history.size()}[what];
    }

    int cost(int walker, int from, int to, int way) {
        if (!among(walker, 6) || !among(from, 12) || !among(to, 12)) return -1;
        if (!among(way, 2)) return -2;
        World before = world;
        world = before.copy();
        int owed = world.walkers[walker].owes;
        Deque<World> kept = new ArrayDeque<>(history);
        walk(walker, from, to);
        int coins = world.walkers[walker].owes - owed;
        world = before;
        history.clear();
        history.addAll(kept);
        return coins;
    }

    int untilDry(int puddle) {
        if (!among(puddle, 12)) return -1;
        World before = world;
        world = before.copy();
        int hours = 0;
        while (world.puddles[puddle].water > 0 && hours < 100) {
            let(0);
            hours++;
        }
        boolean never = world.puddles[puddle].water > 0;
        world = before;
        return never ? -6 : hours;
    }

    int leastShoes(int walker) {
        if (!among(walker, 6)) return -1;
        int least = 0;
        for (int puddle = 0; puddle < 12; puddle++) {
            int needed = 0;
            while (needed < 4 && why(walker, puddle, 2 * needed + 1) != 0) needed++;
            least = Math.max(least, needed);
        }
        return least == 4 ? -6 : least;
    }

    int longestWalk(int walker, int what) {
        if (!among(walker, 6)) return -1;
        if (!among(what, 2)) return -2;
        for (int length = 12; length > 0; length--) {
            for (int first = 0; first + length <= 12; first++) {
                boolean all = true;
                for (int i = 0; i < length; i++) all &= why(walker, first + i) == 0;
                if (all) return what == 0 ? length : first;
            }
        }
        return what == 0 ? 0 : -6;
    }

    int put(long characters) {
        byte[] bytes = java.nio.ByteBuffer.allocate(8).putLong(characters).array();
        StringBuilder text = new StringBuilder();
        for (byte code : bytes) {
            if (code == 0 && text.length() == 0) continue;
            if (code < 33 || code > 126) return -2;
            text.append((char) code);
        }
        if (text.length() == 0) return -2;
        if (pad.length() + text.length() > 60) return -4;
        pad += text;
        return pad.length();
    }

    int wipe() {
        int length = pad.length();
        pad = "";
        return length;
    }

    int fault() {
        if (pad.matches("(r[1-9]|[sfd])+")) return -6;
        int good = pad.length();
        while (!GOOD_START.matcher(pad.substring(0, good)).matches()) good--;
        return good;
    }

    int undo() {
        if (history.isEmpty()) return -5;
        world = history.removeLast();
        return history.size();
    }

    int save(int slot) {
        if (!among(slot, 2)) return -2;
        slots.put(slot, world.copy());
        return world.days;
    }

    int restore(int slot) {
        if (!among(slot, 2)) return -2;
        if (!slots.containsKey(slot)) return -5;
        record();
        world = slots.get(slot).copy();
        return world.days;
    }
}
