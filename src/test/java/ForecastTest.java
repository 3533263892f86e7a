/** Promises 17 to 22: comes, darkest, needs, foresee, mean, digest. */
final class ForecastTest {
    private static final Due DUE = new Due();
    private static final int[] FAR_OUT = {Integer.MIN_VALUE, -2, -1, 1000, Integer.MAX_VALUE};

    public static void main(String[] args) {
        comes();
        comesAgain();
        comesTooLate();
        darkest();
        darkestOfTheRest();
        darkestOfOneMinute();
        needs();
        foresee();
        foreseeIsWhatComes();
        foreseeAtTheEnd();
        mean();
        digest();
        nothingIsChanged();
        DUE.end();
    }

    /** Two streets one behind the other, 5 and 7 long, a lamp in each, one lighter at the corner 0. */
    private static LampHills twoStreets(int oil) {
        LampHills hills = new LampHills();
        hills.corner(0);
        hills.corner(20);
        hills.corner(0);
        hills.street(0, 1, 5);
        hills.street(1, 2, 7);
        hills.lamp(0, 2);
        hills.lamp(1, 2);
        hills.hire(0, 9, oil);
        return hills;
    }

    private static void comes() {
        LampHills hills = twoStreets(999);
        DUE.refused("comes(2)", Due.INDEX, hills, () -> hills.comes(2));
        for (int far : FAR_OUT) {
            DUE.refused("comes(" + far + ")", Due.INDEX, hills, () -> hills.comes(far));
        }
        DUE.is("a lamp of no round", -1, hills.comes(0));
        hills.round(0, 0);
        hills.round(0, 1);
        DUE.is("comes(0)", 3, hills.comes(0));
        DUE.is("comes(1): the way up is 15", 3 + 15 + 3, hills.comes(1));
        hills.pass(2);
        DUE.is("comes(0) later", 1, hills.comes(0));
        DUE.is("comes(1) later", 19, hills.comes(1));
        hills.pass(18);
        DUE.is("comes(1) a minute before", 1, hills.comes(1));
        hills.pass(1);
        DUE.is("it burns then", 1, hills.told(1, 5));
        hills.lamp(0, 2);
        DUE.is("a new lamp of no round", -1, hills.comes(2));
    }

    private static void comesAgain() {
        LampHills hills = twoStreets(31);
        hills.round(0, 0);
        hills.pass(3);
        DUE.is("no oil for a second time", -1, hills.comes(0));
        hills.fill(0, 10);
        // Lit in the minute 2, it burns up to the minute 32; the lighter sets out in the minute 33.
        DUE.is("the first time from now on", 33, hills.comes(0));
        hills.pass(32);
        DUE.is("comes(0) a minute before", 1, hills.comes(0));
        DUE.is("pass(1)", 1, hills.pass(1));
        DUE.is("lit twice", 2, hills.told(0, 7));
    }

    private static void comesTooLate() {
        LampHills hills = twoStreets(999);
        hills.pass(597);
        hills.round(0, 0);
        DUE.is("just in this night", 3, hills.comes(0));
        LampHills late = twoStreets(999);
        late.pass(598);
        late.round(0, 0);
        DUE.is("not in this night", -1, late.comes(0));
        late.pass(2);
        DUE.is("the night is over", -1, late.comes(0));
        late.dawn();
        DUE.is("the next night", 3, late.comes(0));
    }

    private static void darkest() {
        LampHills hills = new LampHills();
        DUE.is("no street", -1, hills.darkest());
        hills.corner(0);
        hills.corner(0);
        DUE.is("no street, but corners", -1, hills.darkest());
        hills.street(0, 1, 1);
        DUE.is("a street without lamps", 0, hills.darkest());
        hills.street(0, 1, 1);
        DUE.is("of several the smallest number", 0, hills.darkest());
        hills.lamp(0, 2);
        DUE.is("of several the smallest number, with a lamp", 0, hills.darkest());
        hills.hire(0, 9, 999);
        hills.round(0, 0);
        DUE.is("the lamp burns in the first one", 1, hills.darkest());
        hills.lamp(1, 2);
        hills.round(0, 1);
        DUE.is("the one that is lit 3 minutes later", 1, hills.darkest());
        hills.pass(600);
        DUE.is("the night is over", -1, hills.darkest());
        hills.dawn();
        hills.fill(0, 999);
        DUE.is("the next night", 1, hills.darkest());
    }

    private static void darkestOfTheRest() {
        LampHills hills = twoStreets(999);
        hills.round(0, 0);
        hills.round(0, 1);
        hills.pass(588);
        hills.fill(0, 999);
        dueDarkest("both may burn", hills);
        hills.dawn();
        hills.lid(1, 9);
        hills.setWind(9, 9);
        hills.pass(500);
        dueDarkest("with a wind", hills);
        LampHills one = new LampHills();
        one.corner(0);
        one.corner(0);
        one.street(0, 1, 1);
        one.lamp(0, 2);
        one.hire(0, 9, 999);
        one.round(0, 0);
        one.setWind(9, 9);
        one.pass(560);
        DUE.is("the wind will blow it out", 0, one.darkest());
        one.pass(34);
        DUE.is("it burns", 1, one.count(5));
        DUE.is("none is dark till the night is over", -1, one.darkest());
    }

    private static void darkestOfOneMinute() {
        for (int oil = 8; oil <= 9; oil++) {
            LampHills hills = new LampHills();
            hills.corner(0);
            hills.corner(0);
            hills.street(0, 1, 1);
            hills.lamp(0, 2);
            hills.hire(0, 9, oil);
            hills.pass(590);
            hills.round(0, 0);
            DUE.is("two dark minutes at least", 0, hills.darkest());
            hills.pass(2);
            // The lamp is lit in the minute 592, so with 8 oil it is dark behind the minute 599 alone.
            DUE.is("with the oil " + oil, oil == 8 ? 0 : -1, hills.darkest());
            hills.pass(7);
            DUE.is("with the oil " + oil + " at last", oil == 8 ? 0 : -1, hills.darkest());
        }
    }

    /** Lets the rest of the night go by, and looks into each minute. */
    private static void dueDarkest(String when, LampHills hills) {
        int told = hills.darkest();
        int[] dark = new int[hills.count(3)];
        while (hills.count(0) < 600) {
            hills.pass(1);
            for (int street = 0; street < dark.length; street++) {
                dark[street] += hills.burning(street) == 0 ? 1 : 0;
            }
        }
        int want = -1;
        for (int street = 0; street < dark.length; street++) {
            if (dark[street] > (want < 0 ? 0 : dark[want])) {
                want = street;
            }
        }
        DUE.is(when + ": darkest()", want, told);
    }

    private static void needs() {
        int[] heights = {0, 9, 10, 19, 20, 29, 30};
        for (int height : heights) {
            for (int wind = 0; wind <= 9; wind++) {
                LampHills hills = new LampHills();
                hills.corner(height);
                hills.corner(0);
                hills.street(1, 0, 1);
                hills.lamp(0, 2);
                hills.setWind(wind, wind);
                int want = Math.max(0, wind + height / 10 - 4);
                DUE.is("needs at " + height + " with the wind " + wind, want, hills.needs(0));
                hills.lid(0, 9);
                DUE.is("needs with another lid", want, hills.needs(0));
                hills.setWind(9 - wind, 9);
                int most = Math.max(0, 9 + height / 10 - 4);
                DUE.is("needs with the strongest wind", most, hills.needs(0));
            }
        }
        for (int hour = 0; hour < 10; hour++) {
            LampHills windy = twoStreets(0);
            windy.setWind(hour, 9);
            DUE.is("needs with a wind in the hour " + hour + " alone", 9 + 2 - 4, windy.needs(1));
        }
        LampHills hills = twoStreets(0);
        DUE.refused("needs(2)", Due.INDEX, hills, () -> hills.needs(2));
        for (int far : FAR_OUT) {
            DUE.refused("needs(" + far + ")", Due.INDEX, hills, () -> hills.needs(far));
        }
    }

    private static void foresee() {
        LampHills hills = twoStreets(999);
        for (int far : new int[] {Integer.MIN_VALUE, -1, 0, 601, Integer.MAX_VALUE}) {
            DUE.refused("foresee(" + far + ", 3)", Due.ARGUMENT, hills, () -> hills.foresee(far, 3));
            DUE.refused("foresee(" + far + ", 0)", Due.ARGUMENT, hills, () -> hills.foresee(far, 0));
        }
        DUE.refused("foresee(600, 3)", Due.INDEX, hills, () -> hills.foresee(600, 3));
        for (int far : FAR_OUT) {
            DUE.refused("foresee(1, " + far + ")", Due.INDEX, hills, () -> hills.foresee(1, far));
        }
        hills.round(0, 0);
        hills.round(0, 1);
        dueForesee(hills, 1, 0, 2, 0);
        dueForesee(hills, 2, 0, 2, 0);
        dueForesee(hills, 3, 1, 1, 1);
        dueForesee(hills, 20, 1, 1, 18);
        dueForesee(hills, 21, 2, 0, 20);
        hills.pass(20);
        dueForesee(hills, 1, 2, 0, 2);
        dueForesee(hills, 11, 2, 0, 22);
        hills.setWind(0, 7);
        // In the minutes 20 and 30 the wind blows out both; they are lit again in the minutes 23 and 26.
        dueForesee(hills, 11, 0, 2, 2 + 8 + 5);
    }

    private static void dueForesee(LampHills hills, int minutes, int burn, int dark, int used) {
        String call = "foresee(" + minutes + ", ";
        DUE.is(call + "0)", burn, hills.foresee(minutes, 0));
        DUE.is(call + "1)", dark, hills.foresee(minutes, 1));
        DUE.is(call + "2)", used, hills.foresee(minutes, 2));
    }

    private static void foreseeIsWhatComes() {
        LampHills hills = twoStreets(999);
        hills.round(0, 1);
        hills.round(0, 0);
        hills.setWind(2, 5);
        hills.setWind(5, 8);
        hills.lid(0, 3);
        for (int minutes = 1; minutes <= 128; minutes += 9) {
            int burn = hills.foresee(minutes, 0);
            int dark = hills.foresee(minutes, 1);
            int used = hills.foresee(minutes, 2);
            int before = hills.count(9);
            hills.pass(minutes);
            DUE.is("lamps that burn then", hills.count(5), burn);
            DUE.is("streets that are dark then", hills.count(6), dark);
            DUE.is("oil that is used up", hills.count(9) - before, used);
        }
    }

    private static void foreseeAtTheEnd() {
        LampHills hills = twoStreets(999);
        hills.round(0, 0);
        hills.pass(599);
        // Lit in the minutes 2, 229 and 447, the lamp has a soot of 5 from the minute 570 on.
        dueForesee(hills, 1, 1, 1, 2);
        dueForesee(hills, 600, 1, 1, 2);
        hills.pass(1);
        dueForesee(hills, 1, 1, 1, 0);
        dueForesee(hills, 600, 1, 1, 0);
    }

    private static void mean() {
        LampHills hills = new LampHills();
        DUE.isDouble("no lamps", 0.0, hills.mean());
        hills.corner(0);
        hills.corner(0);
        hills.street(0, 1, 1);
        hills.lamp(0, 2);
        DUE.isDouble("no oil", 0.0, hills.mean());
        hills.lamp(0, 2);
        hills.lamp(0, 2);
        hills.hire(0, 9, 999);
        hills.round(0, 1);
        hills.pass(3);
        DUE.isDouble("299 of three", 299.0 / 3, hills.mean());
        hills.pass(1);
        DUE.isDouble("298 of three", 298.0 / 3, hills.mean());
        hills.lamp(0, 2);
        DUE.isDouble("298 of four", 74.5, hills.mean());
    }

    private static void digest() {
        LampHills hills = twoStreets(650);
        hills.hire(2, 3, 7);
        hills.round(0, 1);
        hills.round(0, 0);
        hills.round(1, 1);
        hills.setWind(0, 1);
        hills.setWind(9, 8);
        hills.pass(70);
        long d = 941;
        for (int what = 0; what < 10; what++) {
            d = d * 31 + hills.count(what);
        }
        int[] corners = {0, 20, 0};
        d = add(d, corners);
        d = add(d, 0, 1, 5, hills.burning(0), 1, 2, 7, hills.burning(1));
        for (int lamp = 0; lamp < 2; lamp++) {
            for (int what = 0; what < 9; what++) {
                d = d * 31 + hills.told(lamp, what);
            }
        }
        for (int what = 0; what < 7; what++) {
            d = d * 31 + hills.lighter(0, what);
        }
        d = add(d, 1, 0);
        for (int what = 0; what < 7; what++) {
            d = d * 31 + hills.lighter(1, what);
        }
        d = add(d, 1);
        d = add(d, 1, 0, 0, 0, 0, 0, 0, 0, 0, 8);
        DUE.is("digest()", d, hills.digest());
    }

    private static long add(long before, int... numbers) {
        long d = before;
        for (int x : numbers) {
            d = d * 31 + x;
        }
        return d;
    }

    private static void nothingIsChanged() {
        LampHills hills = twoStreets(400);
        hills.round(0, 0);
        hills.round(0, 1);
        LampHills untouched = twoStreets(400);
        untouched.round(0, 0);
        untouched.round(0, 1);
        for (int part = 0; part < 10; part++) {
            hills.comes(1);
            hills.darkest();
            hills.needs(0);
            hills.foresee(600, 2);
            hills.mean();
            hills.way(0, 2);
            DUE.is("digest() behind the forecasts", untouched.digest(), hills.digest());
            hills.pass(37);
            untouched.pass(37);
            DUE.is("digest() behind 37 minutes", untouched.digest(), hills.digest());
        }
    }
}
