import java.util.ArrayList;
import java.util.List;

/**
 * The document once more, as plainly as its words go and with nothing kept that can be worked out:
 * ModelTest plays the same calls on it and on LampHills.
 */
final class Model {
    private static final class Street {
        int a;
        int b;
        int length;
    }

    private static final class Lamp {
        Street street;
        int number;
        int streetNumber;
        int height;
        int lid;
        int oil;
        int soot;
        boolean burns;
        int lit;
        int blown;
        boolean done;
    }

    private static final class Lighter {
        int home;
        int at;
        int ladder;
        int can;
        final List<Lamp> round = new ArrayList<>();
        Lamp goesTo;
        int goal;
        int left;
        Lamp latest;
        int lit;
    }

    private final List<Integer> heights = new ArrayList<>();
    private final List<Street> streets = new ArrayList<>();
    private final List<Lamp> lamps = new ArrayList<>();
    private final List<Lighter> lighters = new ArrayList<>();
    private final int[] winds = new int[10];
    private int minute;
    private int night;
    private int used;

    private Model copy() {
        Model copy = new Model();
        copy.heights.addAll(heights);
        copy.streets.addAll(streets);
        for (Lamp lamp : lamps) {
            Lamp other = new Lamp();
            other.street = lamp.street;
            other.number = lamp.number;
            other.streetNumber = lamp.streetNumber;
            other.height = lamp.height;
            other.lid = lamp.lid;
            other.oil = lamp.oil;
            other.soot = lamp.soot;
            other.burns = lamp.burns;
            other.lit = lamp.lit;
            other.blown = lamp.blown;
            copy.lamps.add(other);
        }
        for (Lighter lighter : lighters) {
            Lighter other = new Lighter();
            other.home = lighter.home;
            other.at = lighter.at;
            other.ladder = lighter.ladder;
            other.can = lighter.can;
            for (Lamp lamp : lighter.round) {
                other.round.add(copy.lamps.get(lamp.number));
            }
            other.goesTo = lighter.goesTo == null ? null : copy.lamps.get(lighter.goesTo.number);
            other.goal = lighter.goal;
            other.left = lighter.left;
            other.latest = lighter.latest == null ? null : copy.lamps.get(lighter.latest.number);
            other.lit = lighter.lit;
            copy.lighters.add(other);
        }
        System.arraycopy(winds, 0, copy.winds, 0, 10);
        copy.minute = minute;
        copy.night = night;
        copy.used = used;
        return copy;
    }

    private static void index(int index, int size) {
        if (index < 0 || index >= size) {
            throw new IndexOutOfBoundsException();
        }
    }

    private static void range(int value, int least, int most) {
        if (value < least || value > most) {
            throw new IllegalArgumentException();
        }
    }

    private static void state(boolean good) {
        if (!good) {
            throw new IllegalStateException();
        }
    }

    int corner(int height) {
        range(height, 0, 30);
        state(heights.size() < 12);
        heights.add(height);
        return heights.size() - 1;
    }

    int street(int a, int b, int length) {
        index(a, heights.size());
        index(b, heights.size());
        if (a == b) {
            throw new IllegalArgumentException();
        }
        range(length, 1, 9);
        state(streets.size() < 18);
        Street street = new Street();
        street.a = a;
        street.b = b;
        street.length = length;
        streets.add(street);
        return streets.size() - 1;
    }

    int lamp(int street, int height) {
        index(street, streets.size());
        range(height, 2, 9);
        state(lamps.size() < 20);
        Lamp lamp = new Lamp();
        lamp.street = streets.get(street);
        lamp.streetNumber = street;
        lamp.number = lamps.size();
        lamp.height = height;
        lamps.add(lamp);
        return lamp.number;
    }

    int lid(int lamp, int lid) {
        index(lamp, lamps.size());
        range(lid, 0, 9);
        int before = lamps.get(lamp).lid;
        lamps.get(lamp).lid = lid;
        return before;
    }

    int setWind(int hour, int wind) {
        index(hour, 10);
        range(wind, 0, 9);
        int before = winds[hour];
        winds[hour] = wind;
        return before;
    }

    int hire(int home, int ladder, int oil) {
        index(home, heights.size());
        range(ladder, 1, 9);
        range(oil, 0, 999);
        state(lighters.size() < 4);
        Lighter lighter = new Lighter();
        lighter.home = home;
        lighter.at = home;
        lighter.ladder = ladder;
        lighter.can = oil;
        lighters.add(lighter);
        return lighters.size() - 1;
    }

    int round(int lighter, int lamp) {
        index(lighter, lighters.size());
        index(lamp, lamps.size());
        List<Lamp> round = lighters.get(lighter).round;
        state(!round.contains(lamps.get(lamp)) && round.size() < 10);
        round.add(lamps.get(lamp));
        return round.size();
    }

    int fill(int lighter, int oil) {
        index(lighter, lighters.size());
        range(oil, 1, 999);
        Lighter one = lighters.get(lighter);
        one.can += oil;
        if (one.can > 999) {
            one.can = 999;
        }
        return one.can;
    }

    int way(int a, int b) {
        index(a, heights.size());
        index(b, heights.size());
        return least(a)[b];
    }

    /** The least ways from a corner, -1 where there is none: every street again till none helps. */
    private int[] least(int from) {
        int[] least = new int[heights.size()];
        for (int corner = 0; corner < least.length; corner++) {
            least[corner] = corner == from ? 0 : -1;
        }
        boolean better = true;
        while (better) {
            better = false;
            for (Street street : streets) {
                better |= tryAlong(least, street.a, street.b, street.length);
                better |= tryAlong(least, street.b, street.a, street.length);
            }
        }
        return least;
    }

    private boolean tryAlong(int[] least, int from, int to, int length) {
        if (least[from] < 0) {
            return false;
        }
        int climb = heights.get(to) > heights.get(from) ? (heights.get(to) - heights.get(from)) / 2 : 0;
        int time = least[from] + length + climb;
        if (least[to] >= 0 && least[to] <= time) {
            return false;
        }
        least[to] = time;
        return true;
    }

    int told(int lamp, int what) {
        index(lamp, lamps.size());
        index(what, 9);
        Lamp one = lamps.get(lamp);
        int goer = -1;
        for (int lighter = 0; lighter < lighters.size(); lighter++) {
            if (lighters.get(lighter).goesTo == one) {
                goer = lighter;
            }
        }
        return new int[] {one.streetNumber, one.height, one.lid, one.oil, one.soot, one.burns ? 1 : 0,
            goer, one.lit, one.blown}[what];
    }

    int lighter(int lighter, int what) {
        index(lighter, lighters.size());
        index(what, 7);
        Lighter one = lighters.get(lighter);
        return new int[] {one.at, one.ladder, one.can, one.round.size(),
            one.goesTo == null ? -1 : one.goesTo.number, one.left, one.lit}[what];
    }

    int burning(int street) {
        index(street, streets.size());
        int sum = 0;
        for (Lamp lamp : lamps) {
            sum += lamp.streetNumber == street && lamp.burns ? 1 : 0;
        }
        return sum;
    }

    int count(int what) {
        index(what, 10);
        int burn = 0;
        int oil = 0;
        for (Lamp lamp : lamps) {
            burn += lamp.burns ? 1 : 0;
            oil += lamp.oil;
        }
        int dark = 0;
        for (int street = 0; street < streets.size(); street++) {
            dark += burning(street) == 0 ? 1 : 0;
        }
        return new int[] {minute, night, heights.size(), streets.size(), lamps.size(), burn, dark,
            lighters.size(), oil, used}[what];
    }

    int pass(int minutes) {
        range(minutes, 1, 600);
        int lit = 0;
        for (int i = 0; i < minutes; i++) {
            if (minute < 600) {
                lit += goOn();
            }
        }
        return lit;
    }

    private int goOn() {
        int lit = 0;
        for (Lamp lamp : lamps) {
            lamp.done = false;
        }
        for (Lighter lighter : lighters) {
            if (lighter.goesTo == null) {
                look(lighter);
            }
            if (lighter.goesTo != null) {
                lighter.left--;
                if (lighter.left == 0) {
                    lit += arrive(lighter);
                }
            }
        }
        for (Lamp lamp : lamps) {
            if (lamp.burns) {
                int use = lamp.soot >= 5 ? 2 : 1;
                if (use > lamp.oil) {
                    use = lamp.oil;
                }
                lamp.oil -= use;
                used += use;
                lamp.burns = lamp.oil > 0;
            }
            if (lamp.burns && minute % 30 == 0 && lamp.soot < 9) {
                lamp.soot++;
            }
            int corner = Math.max(heights.get(lamp.street.a), heights.get(lamp.street.b));
            if (lamp.burns && minute % 10 == 0 && winds[minute / 60] + corner / 10 > lamp.lid + 4) {
                lamp.burns = false;
                lamp.blown++;
            }
        }
        minute++;
        return lit;
    }

    private void look(Lighter lighter) {
        List<Lamp> order = new ArrayList<>();
        int behind = lighter.round.indexOf(lighter.latest) + 1;
        order.addAll(lighter.round.subList(behind, lighter.round.size()));
        order.addAll(lighter.round.subList(0, behind));
        int[] ways = least(lighter.at);
        for (Lamp lamp : order) {
            boolean taken = false;
            for (Lighter other : lighters) {
                taken |= other.goesTo == lamp;
            }
            int toA = ways[lamp.street.a];
            int toB = ways[lamp.street.b];
            if (lamp.burns || taken || lamp.height > lighter.ladder + 2 || toA < 0 && toB < 0) {
                continue;
            }
            if (lighter.can > 0 || lamp.oil > 0) {
                boolean first = toB < 0 || toA >= 0 && toA <= toB;
                lighter.goesTo = lamp;
                lighter.latest = lamp;
                lighter.goal = first ? lamp.street.a : lamp.street.b;
                lighter.left = (first ? toA : toB) + 3;
            }
            return;
        }
    }

    private int arrive(Lighter lighter) {
        Lamp lamp = lighter.goesTo;
        lighter.goesTo = null;
        lighter.at = lighter.goal;
        while (lighter.can > 0 && lamp.oil < 300) {
            lighter.can--;
            lamp.oil++;
        }
        lamp.soot = 0;
        lamp.done = true;
        if (lamp.oil == 0) {
            return 0;
        }
        lamp.burns = true;
        lamp.lit++;
        lighter.lit++;
        return 1;
    }

    int dawn() {
        state(minute == 600);
        int burned = count(5);
        minute = 0;
        night++;
        for (Lamp lamp : lamps) {
            lamp.burns = false;
        }
        for (Lighter lighter : lighters) {
            lighter.at = lighter.home;
            lighter.goesTo = null;
            lighter.left = 0;
            lighter.latest = null;
        }
        return burned;
    }

    int comes(int lamp) {
        index(lamp, lamps.size());
        Model ahead = copy();
        while (ahead.minute < 600) {
            ahead.goOn();
            if (ahead.lamps.get(lamp).done) {
                return ahead.minute - minute;
            }
        }
        return -1;
    }

    int darkest() {
        int[] dark = new int[streets.size()];
        Model ahead = copy();
        while (ahead.minute < 600) {
            ahead.goOn();
            for (int street = 0; street < dark.length; street++) {
                dark[street] += ahead.burning(street) == 0 ? 1 : 0;
            }
        }
        int darkest = -1;
        for (int street = dark.length - 1; street >= 0; street--) {
            if (dark[street] > 0 && (darkest < 0 || dark[street] >= dark[darkest])) {
                darkest = street;
            }
        }
        return darkest;
    }

    int needs(int lamp) {
        index(lamp, lamps.size());
        Street street = lamps.get(lamp).street;
        int corner = Math.max(heights.get(street.a), heights.get(street.b));
        for (int lid = 0; lid <= 9; lid++) {
            boolean out = false;
            for (int wind : winds) {
                out |= wind + corner / 10 > lid + 4;
            }
            if (!out) {
                return lid;
            }
        }
        return -1;
    }

    int foresee(int minutes, int what) {
        range(minutes, 1, 600);
        index(what, 3);
        Model ahead = copy();
        ahead.pass(minutes);
        return new int[] {ahead.count(5), ahead.count(6), ahead.used - used}[what];
    }

    double mean() {
        return lamps.isEmpty() ? 0 : (double) count(8) / lamps.size();
    }

    long digest() {
        List<Integer> numbers = new ArrayList<>();
        for (int what = 0; what < 10; what++) {
            numbers.add(count(what));
        }
        numbers.addAll(heights);
        for (int street = 0; street < streets.size(); street++) {
            numbers.add(streets.get(street).a);
            numbers.add(streets.get(street).b);
            numbers.add(streets.get(street).length);
            numbers.add(burning(street));
        }
        for (int lamp = 0; lamp < lamps.size(); lamp++) {
            for (int what = 0; what < 9; what++) {
                numbers.add(told(lamp, what));
            }
        }
        for (int lighter = 0; lighter < lighters.size(); lighter++) {
            for (int what = 0; what < 7; what++) {
                numbers.add(lighter(lighter, what));
            }
            for (Lamp lamp : lighters.get(lighter).round) {
                numbers.add(lamp.number);
            }
        }
        for (int wind : winds) {
            numbers.add(wind);
        }
        long d = 941;
        for (int x : numbers) {
            d = d * 31 + x;
        }
        return d;
    }
}
