/** Promises 15 and 16, pass and dawn, and how a minute goes. */
final class MinutesTest {
    private static final Due DUE = new Due();

    public static void main(String[] args) {
        passRefuses();
        passTellsLights();
        passEndsWithTheNight();
        ladder();
        noWay();
        nearerCorner();
        firstCornerIfBothAreAsNear();
        goalIsKept();
        roundGoesOn();
        roundOfTen();
        roundSkipsOthersLamps();
        numbersGoFirst();
        roundWaitsForOil();
        oilInTheLampIsEnough();
        oneOilIsEnough();
        canFillsUpTo300();
        sootAndOil();
        outBeforeSoot();
        windEdge();
        windByHours();
        windOfHeights();
        noOilIsNoWind();
        dawnRefuses();
        dawnBeginsAnew();
        dawnTellsBurning();
        roundBeginsAnew();
        DUE.end();
    }

    /** A street between corners as high as told, one lighter of the longest ladder at the first. */
    private static LampHills hillsOf(int low, int high, int length, int lamps, int oil) {
        LampHills hills = new LampHills();
        hills.corner(low);
        hills.corner(high);
        hills.street(0, 1, length);
        hills.hire(0, 9, oil);
        for (int lamp = 0; lamp < lamps; lamp++) {
            hills.lamp(0, 2);
            hills.round(0, lamp);
        }
        return hills;
    }

    private static LampHills flat(int lamps, int oil) {
        return hillsOf(0, 0, 1, lamps, oil);
    }

    private static void passRefuses() {
        LampHills hills = flat(1, 999);
        for (int minutes : new int[] {Integer.MIN_VALUE, -1, 0, 601, Integer.MAX_VALUE}) {
            DUE.refused("pass(" + minutes + ")", Due.ARGUMENT, hills, () -> hills.pass(minutes));
        }
        hills.pass(600);
        DUE.refused("pass(0) at the end", Due.ARGUMENT, hills, () -> hills.pass(0));
        DUE.refused("pass(601) at the end", Due.ARGUMENT, hills, () -> hills.pass(601));
    }

    private static void passTellsLights() {
        LampHills hills = flat(3, 999);
        DUE.is("2 minutes", 0, hills.pass(2));
        DUE.is("the 3rd minute", 1, hills.pass(1));
        DUE.is("6 minutes more", 2, hills.pass(6));
        DUE.is("10 minutes more", 0, hills.pass(10));
        DUE.is("count(0)", 19, hills.count(0));
        DUE.is("lamps that burn", 3, hills.count(5));
        DUE.is("lamps that were lit", 3, hills.lighter(0, 6));
    }

    private static void passEndsWithTheNight() {
        LampHills hills = flat(1, 999);
        hills.pass(1);
        DUE.is("count(0)", 1, hills.count(0));
        hills.pass(597);
        DUE.is("count(0)", 598, hills.count(0));
        hills.pass(600);
        DUE.is("count(0)", 600, hills.count(0));
        long digest = hills.digest();
        DUE.is("pass at the end", 0, hills.pass(1));
        DUE.is("pass at the end", 0, hills.pass(600));
        DUE.is("nothing goes by at the end", digest, hills.digest());
        LampHills whole = flat(1, 999);
        whole.pass(600);
        DUE.is("a whole night at once", digest, whole.digest());
    }

    private static void ladder() {
        LampHills hills = new LampHills();
        hills.corner(0);
        hills.corner(0);
        hills.street(0, 1, 1);
        hills.lamp(0, 7);
        hills.lamp(0, 6);
        hills.hire(0, 4, 999);
        hills.round(0, 0);
        hills.pass(10);
        DUE.is("the ladder + 3 is too high", -1, hills.lighter(0, 4));
        hills.round(0, 1);
        hills.pass(3);
        DUE.is("the ladder + 2 can be reached", 1, hills.told(1, 5));
        DUE.is("the higher one is dark", 0, hills.told(0, 5));
    }

    private static void noWay() {
        LampHills hills = new LampHills();
        for (int corner = 0; corner < 4; corner++) {
            hills.corner(0);
        }
        hills.street(0, 1, 1);
        hills.street(2, 3, 9);
        hills.lamp(1, 2);
        hills.hire(0, 9, 999);
        hills.round(0, 0);
        DUE.is("no way", 0, hills.pass(50));
        hills.street(1, 3, 6);
        hills.pass(1);
        DUE.is("a way of 7 and 3 minutes of work", 9, hills.lighter(0, 5));
        DUE.is("8 minutes more", 0, hills.pass(8));
        DUE.is("the last minute", 1, hills.pass(1));
        DUE.is("the nearer corner was told behind the other", 3, hills.lighter(0, 0));
    }

    private static void nearerCorner() {
        LampHills hills = new LampHills();
        hills.corner(0);
        hills.corner(30);
        hills.corner(0);
        hills.street(0, 1, 1);
        hills.street(1, 2, 1);
        hills.lamp(1, 2);
        hills.hire(0, 9, 999);
        hills.round(0, 0);
        DUE.is("1 + 15 minutes up", 0, hills.pass(18));
        DUE.is("3 minutes of work", 1, hills.pass(1));
        DUE.is("the nearer corner", 1, hills.lighter(0, 0));
    }

    private static void firstCornerIfBothAreAsNear() {
        for (int first = 1; first <= 2; first++) {
            LampHills hills = new LampHills();
            hills.corner(0);
            hills.corner(0);
            hills.corner(0);
            hills.street(0, 1, 4);
            hills.street(0, 2, 4);
            hills.street(first, 3 - first, 9);
            hills.lamp(2, 2);
            hills.hire(0, 9, 999);
            hills.round(0, 0);
            hills.pass(7);
            DUE.is("of both as near the one told first", first, hills.lighter(0, 0));
        }
    }

    private static void goalIsKept() {
        LampHills hills = hillsOf(0, 0, 9, 0, 999);
        hills.corner(0);
        hills.street(1, 2, 9);
        hills.lamp(1, 2);
        hills.round(0, 0);
        hills.pass(1);
        DUE.is("9 minutes and 3 of work, and one less", 11, hills.lighter(0, 5));
        hills.street(0, 2, 1);
        DUE.is("a street that is built then is not gone", 11, hills.lighter(0, 5));
        hills.pass(11);
        DUE.is("the corner that was nearer then", 1, hills.lighter(0, 0));
        DUE.is("it burns", 1, hills.told(0, 5));
    }

    private static void roundGoesOn() {
        LampHills hills = flat(3, 999);
        hills.setWind(0, 5);
        int[] lampOfMinute = {0, 1, 2};
        for (int lamp : lampOfMinute) {
            hills.pass(1);
            DUE.is("by the order of the round", lamp, hills.lighter(0, 4));
            hills.pass(2);
        }
        hills.lid(1, 9);
        // The wind of the minute 10 leaves but the lamp 1 burning; behind the lamp 2 the lamp 0 is the next.
        hills.pass(2);
        DUE.is("the wind blew out two", 1, hills.count(5));
        hills.pass(1);
        DUE.is("round to the first one", 0, hills.lighter(0, 4));
        hills.pass(3);
        DUE.is("behind that the burning one is left out", 2, hills.lighter(0, 4));
        hills.pass(5);
        hills.lid(2, 9);
        hills.pass(2);
        DUE.is("the lamp 0 was blown out again", 2, hills.told(0, 8));
        DUE.is("the lamp 2 burns", 1, hills.told(2, 5));
        hills.pass(3);
        DUE.is("lit again", 3, hills.told(0, 7));
        hills.pass(8);
        DUE.is("the latest one is gone to, if there is no other", 0, hills.lighter(0, 4));
    }

    private static void roundOfTen() {
        LampHills hills = flat(0, 0);
        hills.lamp(0, 2);
        for (int lamp = 1; lamp <= 10; lamp++) {
            hills.lamp(0, 2);
        }
        for (int lamp = 10; lamp >= 1; lamp--) {
            hills.round(0, lamp);
        }
        for (int time = 0; time < 25; time++) {
            hills.fill(0, 1);
            hills.pass(1);
            DUE.is("the lamp of the time " + time, 10 - time % 10, hills.lighter(0, 4));
            DUE.is("lit for a minute", 1, hills.pass(2));
            DUE.is("out again", 0, hills.count(5));
        }
        DUE.is("the lamp of no round", 0, hills.told(0, 7));
    }

    private static void roundSkipsOthersLamps() {
        LampHills hills = flat(2, 999);
        hills.hire(1, 9, 999);
        hills.round(1, 0);
        hills.round(1, 1);
        hills.pass(1);
        DUE.is("the first lamp", 0, hills.lighter(0, 4));
        DUE.is("the lamp to which no other goes", 1, hills.lighter(1, 4));
        DUE.is("told(0, 6)", 0, hills.told(0, 6));
        DUE.is("told(1, 6)", 1, hills.told(1, 6));
        DUE.is("both are lit at once", 2, hills.pass(2));
        DUE.is("told(1, 6)", -1, hills.told(1, 6));
    }

    private static void numbersGoFirst() {
        LampHills hills = flat(1, 10);
        hills.hire(0, 9, 20);
        hills.round(1, 0);
        hills.pass(3);
        DUE.is("the first lighter's oil", 9, hills.told(0, 3));
        hills.pass(9);
        DUE.is("it goes out", 0, hills.told(0, 5));
        hills.pass(1);
        DUE.is("an empty can stays, so the other one goes", 1, hills.told(0, 6));
        DUE.is("the empty one waits", -1, hills.lighter(0, 4));
        DUE.is("the other one's oil", 1, hills.pass(2));
        DUE.is("the other one's oil", 19, hills.told(0, 3));
    }

    private static void roundWaitsForOil() {
        LampHills hills = flat(2, 100);
        hills.setWind(0, 5);
        hills.pass(11);
        DUE.is("the wind left oil in the first one", 91, hills.told(0, 3));
        DUE.is("it is out", 0, hills.told(0, 5));
        hills.pass(300);
        DUE.is("the next one has none, so this one waits", -1, hills.lighter(0, 4));
        DUE.is("nobody goes to the first one", 1, hills.told(0, 7));
        hills.fill(0, 1);
        hills.pass(1);
        DUE.is("with 1 oil the next one", 1, hills.lighter(0, 4));
        hills.pass(2);
        DUE.is("it uses up all of it at once", 0, hills.told(1, 3));
        DUE.is("it was lit", 1, hills.told(1, 7));
        DUE.is("it is out again", 0, hills.told(1, 5));
        hills.pass(1);
        DUE.is("then the first one with its own oil", 0, hills.lighter(0, 4));
    }

    private static void oilInTheLampIsEnough() {
        LampHills hills = flat(1, 300);
        hills.setWind(0, 5);
        hills.pass(11);
        DUE.is("the can is empty", 0, hills.lighter(0, 2));
        DUE.is("oil in the lamp", 291, hills.told(0, 3));
        DUE.is("it is lit with its own oil", 1, hills.pass(3));
        DUE.is("no oil came in", 290, hills.told(0, 3));
        DUE.is("count(9)", 10, hills.count(9));
    }

    private static void oneOilIsEnough() {
        LampHills hills = flat(1, 10);
        hills.setWind(0, 5);
        hills.pass(11);
        DUE.is("the wind left 1 oil", 1, hills.told(0, 3));
        DUE.is("the can is empty", 0, hills.lighter(0, 2));
        DUE.is("it is lit", 1, hills.pass(3));
        DUE.is("it used that up", 0, hills.told(0, 3));
        DUE.is("without oil nobody goes there", 0, hills.pass(100));
    }

    private static void canFillsUpTo300() {
        LampHills hills = flat(4, 950);
        hills.setWind(0, 5);
        hills.pass(9);
        DUE.is("three were filled", 50, hills.lighter(0, 2));
        hills.pass(3);
        DUE.is("the rest of the can", 0, hills.lighter(0, 2));
        DUE.is("the lamp that got the rest", 49, hills.told(3, 3));
        hills.fill(0, 999);
        hills.pass(3);
        DUE.is("what the first one lacked", 999 - 9, hills.lighter(0, 2));
        DUE.is("the first one is full but for a minute", 299, hills.told(0, 3));
    }

    private static void sootAndOil() {
        LampHills hills = flat(1, 999);
        hills.pass(30);
        dueLamp(hills, "before the minute 30", 300 - 28, 0, 1);
        hills.pass(1);
        dueLamp(hills, "behind the minute 30", 300 - 29, 1, 1);
        hills.pass(119);
        dueLamp(hills, "before the minute 150", 300 - 148, 4, 1);
        hills.pass(1);
        dueLamp(hills, "behind the minute 150", 300 - 149, 5, 1);
        hills.pass(1);
        dueLamp(hills, "a soot of 5 uses up 2", 300 - 151, 5, 1);
        hills.pass(74);
        dueLamp(hills, "behind the minute 225", 1, 7, 1);
        DUE.is("count(9)", 299, hills.count(9));
        hills.pass(1);
        dueLamp(hills, "no more than it has", 0, 7, 0);
        DUE.is("count(9)", 300, hills.count(9));
        DUE.is("it is lit again", 1, hills.pass(3));
        dueLamp(hills, "clean again", 299, 0, 1);
        DUE.is("count(9)", 301, hills.count(9));
        DUE.is("what the can lost", 399, hills.lighter(0, 2));
    }

    private static void outBeforeSoot() {
        LampHills hills = flat(1, 29);
        hills.pass(31);
        dueLamp(hills, "out of oil in the minute 30", 0, 0, 0);
        LampHills more = flat(1, 30);
        more.pass(31);
        dueLamp(more, "oil for a minute more", 1, 1, 1);
        LampHills blown = flat(1, 999);
        blown.setWind(0, 5);
        blown.lid(0, 9);
        blown.pass(30);
        blown.lid(0, 0);
        blown.pass(1);
        dueLamp(blown, "the soot comes before the wind", 300 - 29, 1, 0);
        LampHills first = new LampHills();
        first.corner(0);
        first.corner(0);
        first.street(0, 1, 1);
        first.lamp(0, 2);
        first.pass(31);
        dueLamp(first, "a dark lamp gets no soot", 0, 0, 0);
    }

    private static void dueLamp(LampHills hills, String when, int oil, int soot, int burns) {
        DUE.is(when + ": the oil", oil, hills.told(0, 3));
        DUE.is(when + ": the soot", soot, hills.told(0, 4));
        DUE.is(when + ": it burns", burns, hills.told(0, 5));
    }

    private static void windEdge() {
        for (int lid = 0; lid <= 9; lid++) {
            for (int wind = 0; wind <= 9; wind++) {
                LampHills hills = flat(1, 999);
                hills.lid(0, lid);
                hills.setWind(0, wind);
                hills.pass(10);
                DUE.is("wind " + wind + ", lid " + lid + " before the minute 10", 1, hills.told(0, 5));
                hills.pass(1);
                boolean out = wind > lid + 4;
                DUE.is("wind " + wind + ", lid " + lid, out ? 0 : 1, hills.told(0, 5));
                DUE.is("blown out", out ? 1 : 0, hills.told(0, 8));
                DUE.is("the oil of the minute is used up", 291, hills.told(0, 3));
                DUE.is("burning", out ? 0 : 1, hills.burning(0));
            }
        }
    }

    private static void windByHours() {
        for (int hour = 0; hour < 10; hour++) {
            LampHills hills = flat(1, 999);
            hills.setWind(hour, 9);
            // The minute 0 finds no lamp that burns, so the wind of the hour 0 comes in the minute 10.
            int minute = hour == 0 ? 10 : hour * 60;
            hills.pass(minute);
            DUE.is("before the hour " + hour, 0, hills.told(0, 8));
            hills.pass(1);
            DUE.is("in the hour " + hour, 1, hills.told(0, 8));
            hills.pass(9);
            DUE.is("9 minutes more", 1, hills.told(0, 8));
            hills.pass(1);
            DUE.is("10 minutes more", 2, hills.told(0, 8));
        }
    }

    private static void windOfHeights() {
        int[] heights = {0, 9, 10, 19, 20, 29, 30};
        for (int height : heights) {
            for (int lid = 0; lid <= 9; lid++) {
                int out = 7 + height / 10 > lid + 4 ? 1 : 0;
                DUE.is("up to " + height + ", lid " + lid, out, timesBlownOut(0, height, lid));
                DUE.is("down from " + height + ", lid " + lid, out, timesBlownOut(height, 0, lid));
            }
        }
    }

    private static int timesBlownOut(int from, int to, int lid) {
        LampHills hills = hillsOf(from, to, 1, 1, 999);
        hills.setWind(0, 7);
        hills.lid(0, lid);
        hills.pass(11);
        return hills.told(0, 8);
    }

    private static void noOilIsNoWind() {
        LampHills hills = flat(1, 9);
        hills.setWind(0, 9);
        hills.pass(11);
        DUE.is("it went out in the minute 10 for want of oil", 0, hills.told(0, 5));
        DUE.is("not by the wind", 0, hills.told(0, 8));
        DUE.is("count(9)", 9, hills.count(9));
    }

    private static void dawnRefuses() {
        LampHills hills = flat(1, 999);
        DUE.refused("dawn() in the minute 0", Due.STATE, hills, hills::dawn);
        hills.pass(599);
        DUE.refused("dawn() in the minute 599", Due.STATE, hills, hills::dawn);
        hills.pass(1);
        DUE.is("dawn() in the minute 600", 1, hills.dawn());
        DUE.refused("dawn() again", Due.STATE, hills, hills::dawn);
        LampHills empty = new LampHills();
        empty.pass(600);
        DUE.is("dawn() without lamps", 0, empty.dawn());
        DUE.is("the night", 1, empty.count(1));
        empty.pass(600);
        empty.dawn();
        DUE.is("the night", 2, empty.count(1));
    }

    private static void dawnBeginsAnew() {
        LampHills hills = hillsOf(0, 0, 1, 0, 999);
        hills.corner(0);
        hills.street(1, 2, 9);
        hills.lamp(0, 2);
        hills.lamp(1, 2);
        hills.pass(595);
        hills.round(0, 1);
        hills.lid(1, 4);
        hills.pass(4);
        DUE.is("it is lit at the end", 1, hills.told(1, 5));
        hills.round(0, 0);
        hills.pass(1);
        DUE.is("it goes to the next one", 0, hills.lighter(0, 4));
        DUE.is("the lamps that burned", 1, hills.dawn());
        int[] lamp = {1, 2, 4, 298, 0, 0, -1, 1, 0};
        for (int what = 0; what < 9; what++) {
            DUE.is("dawn: told(1, " + what + ")", lamp[what], hills.told(1, what));
        }
        int[] lighter = {0, 9, 699, 2, -1, 0, 1};
        for (int what = 0; what < 7; what++) {
            DUE.is("dawn: lighter(0, " + what + ")", lighter[what], hills.lighter(0, what));
        }
        int[] count = {0, 1, 3, 2, 2, 0, 2, 1, 298, 2};
        for (int what = 0; what < 10; what++) {
            DUE.is("dawn: count(" + what + ")", count[what], hills.count(what));
        }
        DUE.is("dawn: burning(1)", 0, hills.burning(1));
        DUE.is("dawn: told(0, 6)", -1, hills.told(0, 6));
    }

    private static void dawnTellsBurning() {
        LampHills hills = flat(3, 0);
        hills.pass(581);
        hills.fill(0, 999);
        hills.setWind(9, 5);
        hills.lid(1, 1);
        hills.pass(9);
        DUE.is("burning before the minute 590", 3, hills.count(5));
        hills.pass(1);
        DUE.is("the wind leaves one", 1, hills.count(5));
        DUE.is("one is lit in the minute 593", 1, hills.pass(3));
        hills.pass(600);
        DUE.is("burning at the end", 3, hills.count(5));
        DUE.is("dawn()", 3, hills.dawn());
        DUE.is("count(5)", 0, hills.count(5));
        DUE.is("burning(0)", 0, hills.burning(0));
    }

    private static void roundBeginsAnew() {
        LampHills hills = flat(3, 999);
        hills.pass(6);
        DUE.is("two are lit", 2, hills.count(5));
        hills.pass(600);
        hills.dawn();
        hills.fill(0, 999);
        hills.pass(1);
        DUE.is("the first one of the round again", 0, hills.lighter(0, 4));
        hills.pass(2);
        DUE.is("it burns", 1, hills.told(0, 5));
    }
}
