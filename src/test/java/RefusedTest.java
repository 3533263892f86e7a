import java.util.TreeSet;

/**
 * Each call with each mix of arguments at their edges, one beyond them and far out, in towns from the
 * empty to the full one: of several exceptions that apply the first one is thrown, and it changes
 * nothing; and where none applies none is thrown.
 */
final class RefusedTest {
    private static final Due DUE = new Due();
    private static final Class<?>[] NOTHING = {};

    private enum Stage { EMPTY, SMALL, FULL, UNDER_WAY, OVER }

    private interface Call {
        double on(LampHills hills);
    }

    private final Stage stage;
    private final int corners;
    private final int streets;
    private final int lamps;
    private final int lighters;
    private final int roundSize;
    private final long untouched;
    private int refused;

    public static void main(String[] args) {
        for (Stage stage : Stage.values()) {
            RefusedTest test = new RefusedTest(stage);
            test.town();
            test.people();
            test.answers();
            test.minutes();
            DUE.is(stage + ": many calls are refused", 1, test.refused > 100 ? 1 : 0);
        }
        lightersAreUnderWay();
        everyLampOfTheRound();
        DUE.end();
    }

    private RefusedTest(Stage stage) {
        this.stage = stage;
        LampHills hills = build();
        corners = hills.count(2);
        streets = hills.count(3);
        lamps = hills.count(4);
        lighters = hills.count(7);
        roundSize = lighters == 0 ? 0 : hills.lighter(0, 3);
        untouched = goesOn(hills);
    }

    private LampHills build() {
        switch (stage) {
            case EMPTY: return new LampHills();
            case SMALL: return Towns.flat(1, 500);
            case FULL: return Towns.full();
            default:
                LampHills hills = Towns.full();
                hills.pass(stage == Stage.OVER ? 600 : 40);
                return hills;
        }
    }

    /** All that there is, and what comes of it: so also what digest() does not tell is looked at. */
    private static long goesOn(LampHills hills) {
        long sum = hills.digest();
        for (int a = 0; a < hills.count(2); a++) {
            for (int b = 0; b < a; b++) {
                sum = sum * 31 + hills.way(a, b);
                sum = sum * 31 + hills.way(b, a);
            }
        }
        if (hills.count(0) == 600) {
            sum = sum * 31 + hills.dawn();
        }
        sum = sum * 31 + hills.pass(100);
        return sum * 31 + hills.digest();
    }

    // ---- the exceptions, as the document words them

    private static Class<?> noSuch(int number, int size) {
        return number < 0 || number >= size ? Due.INDEX : null;
    }

    private static Class<?> not(int value, int least, int greatest) {
        return value < least || value > greatest ? Due.ARGUMENT : null;
    }

    private static Class<?> thereAre(int size, int limit) {
        return size == limit ? Due.STATE : null;
    }

    private static int[] edges(int least, int greatest) {
        TreeSet<Integer> edges = new TreeSet<>();
        edges.add(Integer.MIN_VALUE);
        edges.add(least - 1);
        edges.add(least);
        edges.add(greatest);
        edges.add(greatest + 1);
        edges.add(Integer.MAX_VALUE);
        return edges.stream().mapToInt(Integer::intValue).toArray();
    }

    private static int[] numbers(int size) {
        return edges(0, size - 1);
    }

    private void due(String name, int[] with, Call call, Class<?>... inOrder) {
        StringBuilder text = new StringBuilder(stage + ": " + name + "(");
        for (int argument : with) {
            text.append(argument).append(' ');
        }
        Class<?> want = null;
        for (Class<?> applies : inOrder) {
            want = want == null ? applies : want;
        }
        LampHills hills = build();
        if (want == null) {
            notRefused(text + ")", hills, call);
        } else {
            refused++;
            DUE.refused(text + ")", want, hills, () -> call.on(hills));
            DUE.is(text + ") changed nothing", untouched, goesOn(hills));
        }
    }

    private static void notRefused(String text, LampHills hills, Call call) {
        try {
            call.on(hills);
            DUE.is(text, 0, 0);
        } catch (RuntimeException e) {
            DUE.tell(text + " threw " + e + ", due is an answer");
        }
    }

    private static int[] with(int... arguments) {
        return arguments;
    }

    // ---- the calls

    private void town() {
        for (int h : edges(0, 30)) {
            due("corner", with(h), x -> x.corner(h), not(h, 0, 30), thereAre(corners, 12));
        }
        for (int a : numbers(corners)) {
            for (int b : numbers(corners)) {
                for (int length : edges(1, 9)) {
                    due("street", with(a, b, length), x -> x.street(a, b, length), noSuch(a, corners),
                            noSuch(b, corners), a == b ? Due.ARGUMENT : null, not(length, 1, 9),
                            thereAre(streets, 18));
                }
            }
        }
        for (int s : numbers(streets)) {
            for (int h : edges(2, 9)) {
                due("lamp", with(s, h), x -> x.lamp(s, h), noSuch(s, streets), not(h, 2, 9),
                        thereAre(lamps, 20));
            }
        }
        for (int l : numbers(lamps)) {
            for (int lid : edges(0, 9)) {
                due("lid", with(l, lid), x -> x.lid(l, lid), noSuch(l, lamps), not(lid, 0, 9));
            }
        }
        for (int hour : numbers(10)) {
            for (int wind : edges(0, 9)) {
                due("setWind", with(hour, wind), x -> x.setWind(hour, wind), noSuch(hour, 10),
                        not(wind, 0, 9));
            }
        }
    }

    private void people() {
        for (int home : numbers(corners)) {
            for (int ladder : edges(1, 9)) {
                for (int oil : edges(0, 999)) {
                    due("hire", with(home, ladder, oil), x -> x.hire(home, ladder, oil),
                            noSuch(home, corners), not(ladder, 1, 9), not(oil, 0, 999),
                            thereAre(lighters, 4));
                }
            }
        }
        for (int g : numbers(lighters)) {
            for (int l : numbers(lamps)) {
                // The small town's only lamp is in the round; in the full ones each round has 10.
                due("round", with(g, l), x -> x.round(g, l), noSuch(g, lighters), noSuch(l, lamps),
                        roundSize == 1 || roundSize == 10 ? Due.STATE : null);
            }
            for (int oil : edges(1, 999)) {
                due("fill", with(g, oil), x -> x.fill(g, oil), noSuch(g, lighters), not(oil, 1, 999));
            }
        }
    }

    private void answers() {
        for (int a : numbers(corners)) {
            for (int b : numbers(corners)) {
                due("way", with(a, b), x -> x.way(a, b), noSuch(a, corners), noSuch(b, corners));
            }
        }
        for (int l : numbers(lamps)) {
            for (int what : numbers(9)) {
                due("told", with(l, what), x -> x.told(l, what), noSuch(l, lamps), noSuch(what, 9));
            }
            due("comes", with(l), x -> x.comes(l), noSuch(l, lamps));
            due("needs", with(l), x -> x.needs(l), noSuch(l, lamps));
        }
        for (int g : numbers(lighters)) {
            for (int what : numbers(7)) {
                due("lighter", with(g, what), x -> x.lighter(g, what), noSuch(g, lighters),
                        noSuch(what, 7));
            }
        }
        for (int s : numbers(streets)) {
            due("burning", with(s), x -> x.burning(s), noSuch(s, streets));
        }
        for (int what : numbers(10)) {
            due("count", with(what), x -> x.count(what), noSuch(what, 10));
        }
    }

    private void minutes() {
        for (int minutes : edges(1, 600)) {
            due("pass", with(minutes), x -> x.pass(minutes), not(minutes, 1, 600));
            for (int what : numbers(3)) {
                due("foresee", with(minutes, what), x -> x.foresee(minutes, what),
                        not(minutes, 1, 600), noSuch(what, 3));
            }
        }
        due("dawn", with(), x -> x.dawn(), stage == Stage.OVER ? null : Due.STATE);
        due("darkest", with(), x -> x.darkest(), NOTHING);
        due("mean", with(), x -> x.mean(), NOTHING);
        due("digest", with(), x -> x.digest(), NOTHING);
    }

    // ---- what the stages above rely on

    private static void lightersAreUnderWay() {
        LampHills hills = new RefusedTest(Stage.UNDER_WAY).build();
        int going = 0;
        int burning = hills.count(5);
        for (int lighter = 0; lighter < 4; lighter++) {
            going += hills.lighter(lighter, 4) >= 0 ? 1 : 0;
        }
        DUE.is("some go to lamps", 1, going > 0 ? 1 : 0);
        DUE.is("some lamps burn, and some do not", 1, burning > 0 && burning < 20 ? 1 : 0);
    }

    /** The lamp that is in the round is refused wherever it stands there, with room and without. */
    private static void everyLampOfTheRound() {
        for (int size = 1; size <= 10; size++) {
            LampHills hills = Towns.flat(size, 0);
            for (int lamp = 0; lamp < size; lamp++) {
                int again = lamp;
                DUE.refused("round(0, " + lamp + ") of " + size, Due.STATE, hills,
                        () -> hills.round(0, again));
            }
            DUE.is("the round has as many as before", size, hills.lighter(0, 3));
            DUE.refused("round(0, " + size + ")", Due.INDEX, hills, () -> hills.round(0, hills.count(4)));
        }
    }
}
