import java.math.BigInteger;

/**
 * Promises 1 to 22: what each call answers at the edges that the document names, in its order. What
 * is thrown is in RefusedTest, and how many of each kind there can be in TermsTest.
 */
final class EdgesTest {
    private static final Due DUE = new Due();

    public static void main(String[] args) {
        aNewTown();
        nothingInANewTown();
        cornerNumbers();
        streetNumbers();
        lampNumbers();
        lidBefore();
        windBefore();
        hireNumbers();
        roundTellsItsSize();
        fillUpTo999();
        way();
        toldNobody();
        toldAtItsLeastAndMost();
        lighterWhoWaits();
        lighterUnderWay();
        burningFromNoneToTwenty();
        countInTheFullTown();
        countAtTheMost();
        passTellsHowOften();
        passAsFarAsTheNightGoes();
        dawnIfTheNightIsOver();
        dawnTellsHowMany();
        dawnLeavesOil();
        dawnEndsWays();
        comesNever();
        comesAtLeastAndMost();
        comesForTheFirstTime();
        darkestOfNone();
        darkestOfEighteen();
        darkestOfEachMinute();
        darkestTillTheNightIsOver();
        needsFrom0To8();
        needsInEachHour();
        foreseeOneMinute();
        foreseeTheNight();
        foreseeBeyondTheNight();
        meanOfNone();
        meanOfTwenty();
        digestOfANewTown();
        digestWrapsAround();
        digestTellsEachNumber();
        DUE.end();
    }

    // ---- promise 1

    /** "Creates a town without corners, in the minute 0 of the night 0." */
    private static void aNewTown() {
        LampHills hills = new LampHills();
        DUE.is("the minute", 0, hills.count(0));
        DUE.is("the night", 0, hills.count(1));
        for (int what = 2; what < 10; what++) {
            DUE.is("count(" + what + ")", 0, hills.count(what));
        }
        DUE.refused("no corner", Due.INDEX, hills, () -> hills.way(0, 0));
        DUE.refused("no street", Due.INDEX, hills, () -> hills.burning(0));
        DUE.refused("no lamp", Due.INDEX, hills, () -> hills.told(0, 0));
        DUE.refused("no lighter", Due.INDEX, hills, () -> hills.lighter(0, 0));
        DUE.refused("the night is not over", Due.STATE, hills, hills::dawn);
    }

    private static void nothingInANewTown() {
        LampHills hills = new LampHills();
        DUE.is("darkest()", -1, hills.darkest());
        DUE.isDouble("mean()", 0, hills.mean());
        for (int what = 0; what < 3; what++) {
            DUE.is("foresee(600, " + what + ")", 0, hills.foresee(600, what));
        }
        DUE.is("pass(600)", 0, hills.pass(600));
        DUE.is("dawn()", 0, hills.dawn());
        DUE.is("the next night", 1, hills.count(1));
        DUE.is("the first corner", 0, hills.corner(30));
    }

    // ---- promises 2 to 9

    private static void cornerNumbers() {
        LampHills hills = new LampHills();
        DUE.is("the least height", 0, hills.corner(0));
        DUE.is("the greatest height", 1, hills.corner(30));
        hills.street(0, 1, 1);
        DUE.is("from the one up to the other", 1 + 15, hills.way(0, 1));
        DUE.is("another one as high", 2, hills.corner(30));
    }

    private static void streetNumbers() {
        LampHills hills = Towns.corners(12);
        DUE.is("the least length, the first and the last corner", 0, hills.street(0, 11, 1));
        DUE.is("the greatest length", 1, hills.street(11, 10, 9));
        DUE.is("along both", 10, hills.way(0, 10));
    }

    private static void lampNumbers() {
        LampHills hills = Towns.street(0, 30, 0);
        DUE.is("the least height", 0, hills.lamp(0, 2));
        DUE.is("the greatest height", 1, hills.lamp(0, 9));
        DUE.is("told(0, 1)", 2, hills.told(0, 1));
        DUE.is("told(1, 1)", 9, hills.told(1, 1));
    }

    /** "Returns its lid before." */
    private static void lidBefore() {
        LampHills hills = Towns.street(0, 0, 20);
        for (int lamp = 0; lamp < 20; lamp++) {
            DUE.is("at first", 0, hills.lid(lamp, 9));
        }
        for (int lamp = 0; lamp < 20; lamp++) {
            DUE.is("the greatest", 9, hills.lid(lamp, 0));
            DUE.is("the least", 0, hills.lid(lamp, lamp % 10));
            DUE.is("the same again", lamp % 10, hills.lid(lamp, lamp % 10));
        }
    }

    /** "Returns the wind before." */
    private static void windBefore() {
        LampHills hills = new LampHills();
        for (int hour = 0; hour < 10; hour++) {
            DUE.is("at first", 0, hills.setWind(hour, 9));
            DUE.is("the greatest", 9, hills.setWind(hour, 0));
            DUE.is("the least", 0, hills.setWind(hour, 9 - hour));
        }
        hills.pass(600);
        hills.dawn();
        for (int hour = 0; hour < 10; hour++) {
            DUE.is("the table stays for the next night", 9 - hour, hills.setWind(hour, 0));
        }
    }

    private static void hireNumbers() {
        LampHills hills = Towns.corners(12);
        DUE.is("the least of all", 0, hills.hire(0, 1, 0));
        DUE.is("the greatest of all", 1, hills.hire(11, 9, 999));
        int[] least = {0, 1, 0, 0, -1, 0, 0};
        int[] greatest = {11, 9, 999, 0, -1, 0, 0};
        for (int what = 0; what < 7; what++) {
            DUE.is("lighter(0, " + what + ")", least[what], hills.lighter(0, what));
            DUE.is("lighter(1, " + what + ")", greatest[what], hills.lighter(1, what));
        }
    }

    /** "Returns how many lamps the round has." */
    private static void roundTellsItsSize() {
        LampHills hills = Towns.street(0, 0, 20);
        for (int lighter = 0; lighter < 4; lighter++) {
            hills.hire(0, 1, 0);
            for (int size = 1; size <= 10; size++) {
                DUE.is("round of " + lighter, size, hills.round(lighter, 20 - size));
            }
        }
    }

    /** "how much oil comes into the can (up to 999)", "Returns the oil in it then." */
    private static void fillUpTo999() {
        int[][] cases = {{0, 1, 1}, {0, 998, 998}, {0, 999, 999}, {1, 997, 998}, {1, 998, 999},
            {1, 999, 999}, {998, 1, 999}, {998, 2, 999}, {999, 1, 999}, {999, 999, 999}, {500, 499, 999},
            {500, 500, 999}};
        for (int[] one : cases) {
            LampHills hills = Towns.corners(1);
            hills.hire(0, 1, one[0]);
            DUE.is(one[1] + " to " + one[0], one[2], hills.fill(0, one[1]));
            DUE.is(one[1] + " to " + one[0] + ", told", one[2], hills.lighter(0, 2));
        }
    }

    // ---- promises 10 to 14

    /** "Returns the way from the first one to the other one; -1 if there is none." */
    private static void way() {
        LampHills hills = new LampHills();
        for (int corner = 0; corner < 12; corner++) {
            hills.corner(corner % 2 * 30);
        }
        for (int corner = 0; corner < 12; corner++) {
            DUE.is("to itself", 0, hills.way(corner, corner));
            DUE.is("to another one without streets", corner == 0 ? 0 : -1, hills.way(0, corner));
        }
        for (int corner = 10; corner >= 1; corner--) {
            hills.street(corner, corner + 1, 9);
        }
        DUE.is("to the one that is not joined", -1, hills.way(11, 0));
        DUE.is("from the one that is not joined", -1, hills.way(0, 11));
        hills.street(1, 0, 9);
        DUE.is("the longest way there can be", 11 * 9 + 6 * 15, hills.way(0, 11));
        DUE.is("the longest way back", 11 * 9 + 5 * 15, hills.way(11, 0));
    }

    /** "6 the lighter who goes to it, -1 for none" */
    private static void toldNobody() {
        LampHills hills = Towns.twenty(1, 0);
        for (int lamp = 0; lamp < 20; lamp++) {
            DUE.is("nobody at first", -1, hills.told(lamp, 6));
        }
        hills.pass(1);
        for (int lamp = 0; lamp < 20; lamp++) {
            DUE.is("the first ones of the rounds", lamp % 5 == 0 ? lamp / 5 : -1, hills.told(lamp, 6));
        }
        hills.pass(2);
        for (int lamp = 0; lamp < 20; lamp++) {
            DUE.is("nobody, since all wait", -1, hills.told(lamp, 6));
        }
    }

    /** "5 1 if it burns, else 0", "7 how often it was lit in all", "8 how often the wind blew it out in all" */
    private static void toldAtItsLeastAndMost() {
        LampHills hills = Towns.flat(1, 999);
        for (int what = 3; what < 9; what++) {
            DUE.is("at first", what == 6 ? -1 : 0, hills.told(0, what));
        }
        for (int hour = 0; hour < 10; hour++) {
            hills.setWind(hour, 9);
        }
        hills.pass(600);
        // Lit in the minute 2 and 3 minutes behind each wind but the last, which leaves 6 minutes.
        DUE.is("lit", 60, hills.told(0, 7));
        DUE.is("blown out", 59, hills.told(0, 8));
        DUE.is("burns", 1, hills.told(0, 5));
        hills.dawn();
        DUE.is("burns no more", 0, hills.told(0, 5));
        hills.pass(600);
        DUE.is("lit in both nights", 120, hills.told(0, 7));
        DUE.is("blown out in both nights", 118, hills.told(0, 8));
    }

    /** "4 the lamp to which this one goes, -1 for none, 5 ... 0 for one who waits" */
    private static void lighterWhoWaits() {
        LampHills hills = Towns.flat(1, 999);
        DUE.is("before the first minute", -1, hills.lighter(0, 4));
        DUE.is("before the first minute", 0, hills.lighter(0, 5));
        hills.pass(3);
        DUE.is("done", -1, hills.lighter(0, 4));
        DUE.is("done", 0, hills.lighter(0, 5));
        DUE.is("lit by this one", 1, hills.lighter(0, 6));
        hills.pass(10);
        DUE.is("nothing to be done", -1, hills.lighter(0, 4));
        DUE.is("nothing to be done", 0, hills.lighter(0, 5));
    }

    /** "0 the corner where this one is, or was, as it set out", "5 the minutes that this takes yet" */
    private static void lighterUnderWay() {
        LampHills hills = longestNight(7);
        hills.pass(1);
        DUE.is("the minutes of a long way", 159 - 1, hills.lighter(0, 5));
        DUE.is("the corner at the setting out", 0, hills.lighter(0, 0));
        DUE.is("the lamp", 0, hills.lighter(0, 4));
        hills.pass(hills.lighter(0, 5) - 1);
        DUE.is("a minute is left", 1, hills.lighter(0, 5));
        DUE.is("the corner at the setting out yet", 0, hills.lighter(0, 0));
        hills.pass(1);
        DUE.is("the corner where this one is", 10, hills.lighter(0, 0));
        DUE.is("no minute is left", 0, hills.lighter(0, 5));
    }

    /** "Returns how many lamps burn in it." */
    private static void burningFromNoneToTwenty() {
        LampHills hills = Towns.twenty(1, 0);
        DUE.is("none", 0, hills.burning(0));
        Towns.lightAll(hills);
        DUE.is("twenty", 20, hills.burning(0));
        LampHills many = Towns.twenty(18, 0);
        Towns.lightAll(many);
        for (int street = 0; street < 18; street++) {
            DUE.is("burning(" + street + ")", street < 2 ? 2 : 1, many.burning(street));
        }
    }

    private static void countInTheFullTown() {
        LampHills hills = Towns.full();
        int[] full = {0, 0, 12, 18, 20, 0, 18, 4, 0, 0};
        for (int what = 0; what < 10; what++) {
            DUE.is("full: count(" + what + ")", full[what], hills.count(what));
        }
        hills.pass(600);
        DUE.is("the greatest minute", 600, hills.count(0));
        DUE.is("what was poured is in the lamps or used up", 4 * 999, hills.count(8) + hills.count(9)
                + hills.lighter(0, 2) + hills.lighter(1, 2) + hills.lighter(2, 2) + hills.lighter(3, 2));
    }

    private static void countAtTheMost() {
        LampHills hills = Towns.twenty(1, 0);
        Towns.lightAll(hills);
        DUE.is("the minute", 15, hills.count(0));
        DUE.is("lamps that burn", 20, hills.count(5));
        DUE.is("streets that are dark", 0, hills.count(6));
        // Of each round the lamps are lit in the minutes 2, 5, 8, 11 and 14.
        DUE.is("oil that was used up", 4 * (13 + 10 + 7 + 4 + 1), hills.count(9));
        DUE.is("oil of all lamps", 20 * 300 - 4 * (13 + 10 + 7 + 4 + 1), hills.count(8));
    }

    // ---- promises 15 and 16

    /** "Returns how often lamps are lit in them." */
    private static void passTellsHowOften() {
        LampHills hills = Towns.flat(1, 999);
        DUE.is("the least minutes", 0, hills.pass(1));
        DUE.is("none yet", 0, hills.pass(1));
        DUE.is("just one", 1, hills.pass(1));
        LampHills windy = Towns.flat(1, 999);
        for (int hour = 0; hour < 10; hour++) {
            windy.setWind(hour, 9);
        }
        DUE.is("the most minutes, and the same lamp again and again", 60, windy.pass(600));
        LampHills twenty = Towns.twenty(18, 0);
        DUE.is("all at once", 20, Towns.lightAll(twenty));
    }

    /** "Lets minutes go by, as far as the night goes." */
    private static void passAsFarAsTheNightGoes() {
        for (int minutes = 1; minutes <= 600; minutes += 599) {
            LampHills hills = Towns.full();
            hills.pass(599);
            LampHills other = Towns.full();
            other.pass(599);
            other.pass(1);
            hills.pass(minutes);
            DUE.is("the last minute by pass(" + minutes + ")", other.digest(), hills.digest());
            hills.pass(minutes);
            DUE.is("nothing behind it", other.digest(), hills.digest());
        }
    }

    /** "Throws IllegalStateException if the night is not over" */
    private static void dawnIfTheNightIsOver() {
        for (int minute : new int[] {0, 1, 300, 598, 599}) {
            LampHills hills = Towns.flat(1, 999);
            if (minute > 0) {
                hills.pass(minute);
            }
            DUE.refused("dawn() in the minute " + minute, Due.STATE, hills, hills::dawn);
            DUE.is("the night", 0, hills.count(1));
        }
        LampHills hills = Towns.flat(1, 999);
        for (int night = 0; night < 100; night++) {
            DUE.is("the night", night, hills.count(1));
            hills.pass(600);
            hills.dawn();
        }
        DUE.refused("a dawn behind a dawn", Due.STATE, hills, hills::dawn);
    }

    /** "Returns how many lamps burned.", "no lamp burns" */
    private static void dawnTellsHowMany() {
        LampHills none = Towns.street(0, 0, 20);
        none.pass(600);
        DUE.is("none", 0, none.dawn());
        LampHills some = Towns.twenty(18, 594);
        some.pass(600);
        DUE.is("the first two of each round", 8, some.dawn());
        DUE.is("none burns of those that did", 0, some.count(5));
        DUE.is("all are dark again", 18, some.count(6));
        LampHills all = Towns.twenty(18, 585);
        Towns.lightAll(all);
        DUE.is("the night is over", 600, all.count(0));
        DUE.is("all twenty", 20, all.dawn());
        DUE.is("none burns", 0, all.count(5));
        DUE.is("all streets are dark", 18, all.count(6));
        for (int lamp = 0; lamp < 20; lamp++) {
            DUE.is("told(" + lamp + ", 5)", 0, all.told(lamp, 5));
        }
    }

    /** "oil, soot and lids stay" */
    private static void dawnLeavesOil() {
        LampHills hills = Towns.street(0, 0, 1);
        hills.hire(0, 9, 310);
        hills.lid(0, 9);
        hills.pass(568);
        hills.round(0, 0);
        hills.pass(600);
        // Lit in the minute 570, the lamp has burned for 30 minutes, and has soot from the first one.
        int[] stays = {0, 2, 9, 270, 1, 0, -1, 1, 0};
        hills.dawn();
        for (int what = 0; what < 9; what++) {
            DUE.is("told(0, " + what + ")", stays[what], hills.told(0, what));
        }
        DUE.is("the oil in the can", 10, hills.lighter(0, 2));
        DUE.is("the round", 1, hills.lighter(0, 3));
        DUE.is("lit by this one", 1, hills.lighter(0, 6));
        DUE.is("oil that was used up", 30, hills.count(9));
    }

    /** "all lighters are at home, wait, and begin their rounds anew" */
    private static void dawnEndsWays() {
        LampHills hills = Towns.corners(3);
        hills.street(0, 1, 9);
        hills.street(1, 2, 9);
        for (int lamp = 0; lamp < 4; lamp++) {
            hills.lamp(1, 2);
        }
        for (int lighter = 0; lighter < 4; lighter++) {
            hills.hire(0, 9, 999);
        }
        hills.pass(580);
        for (int lighter = 0; lighter < 4; lighter++) {
            hills.round(lighter, lighter);
        }
        hills.pass(14);
        hills.lamp(0, 2);
        for (int lighter = 0; lighter < 4; lighter++) {
            hills.round(lighter, 4);
        }
        hills.pass(600);
        DUE.is("not at home before", 1, hills.lighter(3, 0));
        hills.dawn();
        for (int lighter = 0; lighter < 4; lighter++) {
            DUE.is("at home", 0, hills.lighter(lighter, 0));
            DUE.is("waits", -1, hills.lighter(lighter, 4));
            DUE.is("no minutes", 0, hills.lighter(lighter, 5));
        }
        hills.pass(1);
        for (int lighter = 0; lighter < 4; lighter++) {
            DUE.is("the first one of the round", lighter, hills.lighter(lighter, 4));
            DUE.is("from home", 9 + 3 - 1, hills.lighter(lighter, 5));
        }
        LampHills going = longestNight(8);
        going.pass(600);
        DUE.is("a minute is left of the way", 1, going.lighter(0, 5));
        going.dawn();
        DUE.is("the way is ended", 0, going.lighter(0, 5));
        DUE.is("nobody goes to the lamp", -1, going.told(3, 6));
        DUE.is("lit again from the first one on", 0, going.pass(1));
        DUE.is("which is the first one", 0, going.lighter(0, 4));
    }

    // ---- promises 17 to 20

    /**
     * One lighter goes to and fro between the ends of a chain of all corners, up and down, to four
     * lamps: as many as a can has oil for. The first street's length is told; with 7 the ways and the
     * work take 81 + 75 + 3, 74 + 75 + 3, 74 + 60 + 3 and 74 + 75 + 3 minutes, which are 600.
     */
    private static LampHills longestNight(int firstLength) {
        LampHills hills = new LampHills();
        for (int corner = 0; corner < 12; corner++) {
            hills.corner(corner % 2 * 30);
        }
        for (int street = 0; street < 11; street++) {
            hills.street(street, street + 1, street == 0 ? firstLength : street == 5 ? 2 : 9);
        }
        hills.hire(0, 9, 999);
        for (int lamp = 0; lamp < 4; lamp++) {
            hills.lamp(lamp % 2 == 0 ? 10 : 0, 2);
            hills.round(0, lamp);
        }
        return hills;
    }

    /** "-1 if none is" */
    private static void comesNever() {
        LampHills hills = Towns.street(0, 0, 2);
        DUE.is("no lighter", -1, hills.comes(0));
        hills.hire(0, 9, 999);
        DUE.is("in no round", -1, hills.comes(0));
        hills.round(0, 1);
        DUE.is("another one is in the round", -1, hills.comes(0));
        DUE.is("this one is", 3, hills.comes(1));
        LampHills dry = Towns.flat(1, 0);
        DUE.is("no oil", -1, dry.comes(0));
        LampHills burning = Towns.flat(1, 300);
        burning.pass(3);
        DUE.is("it burns, and there is no oil to light it again", -1, burning.comes(0));
        LampHills over = Towns.flat(1, 999);
        over.pass(600);
        DUE.is("the night is over", -1, over.comes(0));
    }

    /** "Returns behind how many minutes a lighter is done with it", "in this night" */
    private static void comesAtLeastAndMost() {
        LampHills most = longestNight(7);
        int[] minutes = {159, 311, 448, 600};
        for (int lamp = 0; lamp < 4; lamp++) {
            DUE.is("comes(" + lamp + ")", minutes[lamp], most.comes(lamp));
        }
        most.pass(100);
        for (int lamp = 0; lamp < 4; lamp++) {
            DUE.is("under way, comes(" + lamp + ")", minutes[lamp] - 100, most.comes(lamp));
        }
        most.pass(499);
        DUE.is("comes in one minute", 1, most.comes(3));
        DUE.is("lit in the last minute", 1, most.pass(1));
        DUE.is("burns in the last minute", 1, most.told(3, 5));
        DUE.is("behind the night", -1, most.comes(3));
        LampHills late = longestNight(8);
        DUE.is("the third one, later by a minute", 449, late.comes(2));
        DUE.is("the fourth one would be too late by a minute", -1, late.comes(3));
        DUE.is("three in the whole night", 3, late.pass(600));
    }

    /** "for the first time" */
    private static void comesForTheFirstTime() {
        LampHills hills = Towns.flat(2, 999);
        hills.setWind(0, 5);
        DUE.is("of many times the first one", 3, hills.comes(0));
        DUE.is("the second lamp", 6, hills.comes(1));
        hills.pass(6);
        // The wind of the minute 10 blows out both; the lighter is done with the first one in 13.
        DUE.is("for the first time from now on", 8, hills.comes(0));
        DUE.is("the second lamp", 11, hills.comes(1));
        LampHills two = Towns.corners(2);
        two.street(0, 1, 9);
        two.lamp(0, 2);
        two.hire(0, 9, 1);
        two.hire(1, 9, 1);
        two.round(0, 0);
        two.pass(1);
        two.round(1, 0);
        DUE.is("any lighter", 2, two.comes(0));
        two.pass(2);
        DUE.is("the other lighter, as the first one has no oil", 3, two.comes(0));
    }

    /** "-1 if none is, or there is none" */
    private static void darkestOfNone() {
        LampHills none = Towns.corners(12);
        DUE.is("there is none", -1, none.darkest());
        LampHills lit = Towns.twenty(18, 580);
        Towns.lightAll(lit);
        DUE.is("none is dark till the night is over", -1, lit.darkest());
        DUE.is("none is dark now", 0, lit.count(6));
        lit.pass(600);
        DUE.is("no minute is left", -1, lit.darkest());
        LampHills over = Towns.full();
        over.pass(600);
        DUE.is("no minute is left, though some are dark", -1, over.darkest());
        DUE.is("some are dark", 1, over.count(6) > 0 ? 1 : 0);
    }

    /** "of several the one with the smallest number" */
    private static void darkestOfEighteen() {
        LampHills hills = Towns.corners(2);
        for (int street = 0; street < 18; street++) {
            hills.street(0, 1, 1);
        }
        DUE.is("of eighteen the first one", 0, hills.darkest());
        LampHills twenty = Towns.twenty(18, 580);
        // Each can has oil for four lamps, so the fifth one of each round stays dark: 4, 9, 14, and 19,
        // which stands in a street with another lamp.
        DUE.is("of three the first one", 4, twenty.darkest());
        LampHills last = Towns.corners(2);
        for (int street = 0; street < 18; street++) {
            last.street(0, 1, 1);
            last.lamp(street, 2);
        }
        last.pass(540);
        for (int lamp = 0; lamp < 17; lamp++) {
            if (lamp % 9 == 0) {
                last.hire(0, 9, 999);
            }
            last.round(lamp / 9, lamp);
        }
        for (int part = 0; part < 10; part++) {
            last.fill(0, 999);
            last.fill(1, 999);
            last.pass(3);
        }
        DUE.is("seventeen burn", 17, last.count(5));
        DUE.is("the last one of eighteen", 17, last.darkest());
    }

    /** "in the most minutes": one minute more is enough, whichever one it is. */
    private static void darkestOfEachMinute() {
        for (int minute = 580; minute <= 583; minute++) {
            LampHills hills = oneLater(minute);
            DUE.is("3 and 2 minutes are left till the light", 1, hills.darkest());
            hills.pass(1);
            DUE.is("2 minutes and 1", 1, hills.darkest());
            hills.pass(1);
            DUE.is("1 minute and none", 1, hills.darkest());
            hills.pass(1);
            DUE.is("none and none", -1, hills.darkest());
        }
    }

    /** The lamp of the street 1 is lit a minute behind the one of the street 0; the street 2 is lit. */
    private static LampHills oneLater(int minute) {
        LampHills hills = Towns.corners(3);
        hills.street(0, 1, 9);
        hills.street(0, 1, 9);
        hills.street(2, 0, 1);
        hills.lamp(0, 2);
        hills.lamp(1, 2);
        hills.lamp(2, 2);
        hills.hire(0, 9, 999);
        hills.hire(2, 9, 999);
        hills.hire(2, 9, 999);
        hills.pass(minute - 3);
        hills.round(2, 2);
        hills.pass(3);
        hills.round(0, 0);
        hills.round(1, 1);
        return hills;
    }

    /** "behind each one, from the next one on till the night is over" */
    private static void darkestTillTheNightIsOver() {
        for (int oil = 4; oil <= 6; oil++) {
            LampHills hills = Towns.street(0, 0, 1);
            hills.hire(0, 9, oil);
            hills.pass(593);
            hills.round(0, 0);
            hills.pass(2);
            // Lit in the minute 595, with 4 oil the lamp is out behind 598, with 5 behind 599.
            DUE.is("dark behind this minute is not asked for", oil == 6 ? -1 : 0, hills.darkest());
            hills.pass(4);
            DUE.is("dark behind the minute 599, oil " + oil, oil == 6 ? -1 : 0, hills.darkest());
            DUE.is("dark behind the minute 598, oil " + oil, oil == 4 ? 1 : 0, hills.count(6));
        }
    }

    /** "Returns the least lid with which no wind of the table blows it out" */
    private static void needsFrom0To8() {
        for (int height = 0; height <= 30; height++) {
            LampHills hills = Towns.street(height, 0, 1);
            for (int wind = 0; wind <= 9; wind++) {
                hills.setWind(9, wind);
                int least = 0;
                while (wind + height / 10 > least + 4) {
                    least++;
                }
                DUE.is("needs at " + height + ", wind " + wind, least, hills.needs(0));
            }
            DUE.is("with each wind some lid is enough", 9 + height / 10 - 4, hills.needs(0));
        }
    }

    private static void needsInEachHour() {
        for (int hour = 0; hour < 10; hour++) {
            LampHills hills = Towns.twenty(1, 0);
            hills.setWind(hour, 5);
            DUE.is("the first lamp", 1, hills.needs(0));
            DUE.is("the last lamp", 1, hills.needs(19));
            hills.setWind(9 - hour, 4);
            DUE.is("the strongest wind is asked for", 1, hills.needs(0));
            hills.pass(600);
            DUE.is("also when its hour is over", 1, hills.needs(0));
            hills.lid(0, 9);
            DUE.is("the lid that it has is not asked for", 1, hills.needs(0));
        }
    }

    /** "how many, 1 to 600" */
    private static void foreseeOneMinute() {
        LampHills hills = Towns.flat(1, 999);
        dueForesee("the first minute", hills, 1, 0, 1, 0);
        hills.pass(2);
        dueForesee("the minute of the light", hills, 1, 1, 0, 1);
        hills.pass(1);
        dueForesee("the minute behind it", hills, 1, 1, 0, 1);
        LampHills last = Towns.flat(1, 2);
        last.pass(3);
        dueForesee("the minute of the last oil", last, 1, 0, 1, 1);
    }

    private static void foreseeTheNight() {
        LampHills hills = Towns.twenty(18, 0);
        LampHills passed = Towns.twenty(18, 0);
        passed.pass(600);
        dueForesee("the whole night", hills, 600, passed.count(5), passed.count(6), passed.count(9));
        DUE.is("all oil of four cans", 4 * 999, hills.foresee(600, 2));
        DUE.is("nothing is changed", Towns.twenty(18, 0).digest(), hills.digest());
        Towns.lightAll(hills);
        dueForesee("all burn", hills, 1, 20, 0, 20);
    }

    /** "as far as the night goes" */
    private static void foreseeBeyondTheNight() {
        LampHills hills = Towns.flat(1, 999);
        hills.pass(595);
        int used = hills.foresee(5, 2);
        DUE.is("behind the night", used, hills.foresee(6, 2));
        DUE.is("behind the night", used, hills.foresee(600, 2));
        hills.pass(5);
        dueForesee("the night is over", hills, 1, hills.count(5), hills.count(6), 0);
        dueForesee("the night is over", hills, 600, hills.count(5), hills.count(6), 0);
    }

    private static void dueForesee(String when, LampHills hills, int minutes, int burn, int dark, int used) {
        DUE.is(when + ": lamps that burn then", burn, hills.foresee(minutes, 0));
        DUE.is(when + ": streets that are dark then", dark, hills.foresee(minutes, 1));
        DUE.is(when + ": oil that is used up", used, hills.foresee(minutes, 2));
    }

    // ---- promises 21 and 22

    /** "0 if there are none" */
    private static void meanOfNone() {
        DUE.isDouble("a new town", 0, new LampHills().mean());
        DUE.isDouble("streets without lamps", 0, Towns.street(0, 0, 0).mean());
        DUE.isDouble("lamps without oil", 0, Towns.street(0, 0, 20).mean());
    }

    private static void meanOfTwenty() {
        LampHills one = Towns.flat(1, 999);
        one.pass(3);
        DUE.isDouble("the only lamp", 299, one.mean());
        LampHills hills = Towns.twenty(1, 0);
        hills.pass(3);
        DUE.isDouble("four lamps of twenty", 4 * 299 / 20.0, hills.mean());
        LampHills third = Towns.flat(3, 1);
        third.fill(0, 1);
        third.pass(3);
        DUE.isDouble("1 oil of three lamps", 1 / 3.0, third.mean());
    }

    /** "A number d starts with 941": with the count's ten numbers and the ten winds, all 0. */
    private static void digestOfANewTown() {
        BigInteger d = BigInteger.valueOf(941).multiply(BigInteger.valueOf(31).pow(20));
        DUE.is("it is more than 64 bits hold", 1, d.bitLength() > 64 ? 1 : 0);
        DUE.is("digest()", d.longValue(), new LampHills().digest());
    }

    /** "which wraps around as a 64-bit integer": as the remainder of a number that has no end. */
    private static void digestWrapsAround() {
        int negative = 0;
        int positive = 0;
        for (int minutes = 1; minutes <= 600; minutes += 30) {
            LampHills hills = Towns.full();
            hills.pass(minutes);
            long want = unbounded(hills).longValue();
            DUE.is("digest() behind " + minutes, want, hills.digest());
            negative += want < 0 ? 1 : 0;
            positive += want > 0 ? 1 : 0;
        }
        DUE.is("it wraps to numbers below 0 and above", 1, negative > 0 && positive > 0 ? 1 : 0);
    }

    private static BigInteger unbounded(LampHills hills) {
        BigInteger d = BigInteger.valueOf(941);
        for (int what = 0; what < 10; what++) {
            d = add(d, hills.count(what));
        }
        for (int corner = 0; corner < 12; corner++) {
            d = add(d, corner * 7 % 31);
        }
        for (int street = 0; street < 18; street++) {
            d = add(d, street % 12, (street + 1 + street / 12) % 12, 1 + street % 9, hills.burning(street));
        }
        for (int lamp = 0; lamp < 20; lamp++) {
            for (int what = 0; what < 9; what++) {
                d = add(d, hills.told(lamp, what));
            }
        }
        for (int lighter = 0; lighter < 4; lighter++) {
            for (int what = 0; what < 7; what++) {
                d = add(d, hills.lighter(lighter, what));
            }
            for (int place = 0; place < 10; place++) {
                d = add(d, (lighter * 5 + place) % 20);
            }
        }
        return add(d, 0, 0, 0, 0, 0, 0, 0, 0, 0, 0);
    }

    private static BigInteger add(BigInteger before, int... numbers) {
        BigInteger d = before;
        for (int x : numbers) {
            d = d.multiply(BigInteger.valueOf(31)).add(BigInteger.valueOf(x));
        }
        return d;
    }

    /** "its corners, as they were told": and each other number makes another digest. */
    private static void digestTellsEachNumber() {
        LampHills one = Towns.corners(2);
        one.street(0, 1, 5);
        LampHills other = Towns.corners(2);
        other.street(1, 0, 5);
        // Behind the corners come the length, what burns, and the ten winds.
        DUE.is("the corners the other way round", power(13) - power(12), other.digest() - one.digest());
        for (int hour = 0; hour < 10; hour++) {
            LampHills windy = new LampHills();
            windy.setWind(hour, 9);
            DUE.is("the wind of the hour " + hour, 9 * power(9 - hour),
                    windy.digest() - new LampHills().digest());
        }
    }

    private static long power(int times) {
        long power = 1;
        for (int time = 0; time < times; time++) {
            power *= 31;
        }
        return power;
    }
}
