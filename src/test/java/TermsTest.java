/**
 * "What it is" and "Terms" down to the wind: each sentence there that names an edge, in its order.
 * How a minute goes is in MinuteEdgesTest, what is refused is in RefusedTest too.
 */
final class TermsTest {
    private static final Due DUE = new Due();

    public static void main(String[] args) {
        the512thCall();
        manyDearCalls();
        cutTowardsZero();
        minutesFrom0To600();
        nothingGoesByBehind599();
        twelveCorners();
        heightsFrom0To30();
        differentCorners();
        streetsLeadBothWays();
        eighteenStreets();
        lengthsFrom1To9();
        halfOfTheDifference();
        leastWay();
        twentyLamps();
        lampsFrom2To9High();
        lidsFrom0To9();
        oilOfLampsFrom0To300();
        sootFrom0();
        lampsDoNotBurnAtFirst();
        darkStreets();
        fourLighters();
        laddersFrom1To9();
        cansFrom0To999();
        tenDifferentLamps();
        inTheOrderOfTheirAdding();
        lightersWaitAtHomeAtFirst();
        ladderAndTwo();
        noWayToBothCorners();
        nearerCorner();
        bothAsNear();
        tenHours();
        windFrom0To9();
        DUE.end();
    }

    /** "An object is used for at most 512 calls": the 512th one is answered as the others are. */
    private static void the512thCall() {
        // 6 calls build the town. The lamp is lit in the minutes 2, 229 and 447, so that behind the
        // minute 504 it has used up 58 oil, and got soot in the minutes 450 and 480; it will have a
        // soot of 5 behind the minute 570.
        DUE.is("the 512th call, told", 300 - 58, withCalls(511).told(0, 3));
        DUE.is("the 512th call, told", 2, withCalls(511).told(0, 4));
        DUE.is("the 512th call, count", 505, withCalls(511).count(0));
        DUE.is("the 512th call, pass", 0, withCalls(511).pass(600));
        DUE.is("the 512th call, foresee", 66 + 2 * 29, withCalls(511).foresee(95, 2));
        DUE.is("the 512th call, corner", 2, withCalls(511).corner(30));
        LampHills atOnce = Towns.flat(1, 999);
        atOnce.pass(505);
        DUE.is("the 512th call, digest", atOnce.digest(), withCalls(511).digest());
        LampHills refusing = withCalls(511);
        Class<?> thrown = null;
        try {
            refusing.dawn();
        } catch (RuntimeException e) {
            thrown = e.getClass();
        }
        DUE.is("the 512th call, a dawn that is refused", 1, thrown == Due.STATE ? 1 : 0);
    }

    private static LampHills withCalls(int calls) {
        LampHills hills = Towns.flat(1, 999);
        for (int call = 6; call < calls; call++) {
            hills.pass(1);
        }
        return hills;
    }

    private static void manyDearCalls() {
        LampHills hills = Towns.full();
        int used = hills.foresee(600, 2);
        int comes = hills.comes(19);
        int darkest = hills.darkest();
        for (int time = 0; time < 138; time++) {
            DUE.is("foresee again", used, hills.foresee(600, 2));
            DUE.is("comes again", comes, hills.comes(19));
            DUE.is("darkest again", darkest, hills.darkest());
        }
    }

    /** "/ is cut towards 0" */
    private static void cutTowardsZero() {
        LampHills hills = new LampHills();
        hills.corner(0);
        hills.corner(29);
        hills.street(0, 1, 1);
        hills.lamp(0, 2);
        DUE.is("the half of 29 is 14", 1 + 14, hills.way(0, 1));
        hills.setWind(0, 9);
        DUE.is("29 / 10 is 2", 9 + 2 - 4, hills.needs(0));
    }

    /** "Time is told in minutes of a night, from 0 to 600" */
    private static void minutesFrom0To600() {
        for (int minutes : new int[] {1, 2, 59, 60, 598, 599, 600}) {
            LampHills hills = new LampHills();
            DUE.is("at first", 0, hills.count(0));
            hills.pass(minutes);
            DUE.is("behind " + minutes, minutes, hills.count(0));
            hills.pass(600);
            DUE.is("behind 600 more", 600, hills.count(0));
            hills.dawn();
            DUE.is("behind dawn()", 0, hills.count(0));
        }
    }

    /** "behind the minute 599 the night is over, and nothing goes by any more till dawn()" */
    private static void nothingGoesByBehind599() {
        LampHills last = Towns.street(0, 0, 1);
        last.hire(0, 9, 999);
        last.pass(597);
        last.round(0, 0);
        DUE.is("lit in the minute 599", 1, last.pass(600));
        DUE.is("the minute 599 uses oil", 299, last.told(0, 3));
        long over = last.digest();
        DUE.is("no light behind it", 0, last.pass(1));
        DUE.is("no light behind it", 0, last.pass(600));
        DUE.is("nothing goes by", over, last.digest());
        last.setWind(9, 9);
        last.pass(600);
        DUE.is("no wind blows behind it", 0, last.told(0, 8));

        LampHills late = Towns.street(0, 0, 1);
        late.hire(0, 9, 999);
        late.pass(598);
        late.round(0, 0);
        DUE.is("too late by a minute", 0, late.pass(600));
        DUE.is("a minute is left of the work", 1, late.lighter(0, 5));
        DUE.is("still too late", 0, late.pass(600));
        DUE.is("a minute is left yet", 1, late.lighter(0, 5));
        late.dawn();
        DUE.is("till dawn()", 1, late.pass(3));
    }

    /** "There are at most 12, numbered from 0 in the order of their building" */
    private static void twelveCorners() {
        LampHills hills = new LampHills();
        for (int number = 0; number < 12; number++) {
            int next = number;
            DUE.refused("way to the next one", Due.INDEX, hills, () -> hills.way(0, next));
            DUE.is("corners before", number, hills.count(2));
            DUE.is("corner(" + number + ")", number, hills.corner(number));
        }
        DUE.is("twelve", 12, hills.count(2));
        DUE.refused("the 13th corner", Due.STATE, hills, () -> hills.corner(0));
        DUE.is("twelve yet", 12, hills.count(2));
        DUE.is("a street to the last one", 0, hills.street(11, 0, 1));
        // The corner n is as high as n, so from 0 up to 11 the half of 11 more is due.
        DUE.is("up to the last one", 1 + 5, hills.way(0, 11));
    }

    /** "each has a height, 0 to 30" */
    private static void heightsFrom0To30() {
        for (int height = 0; height <= 30; height++) {
            DUE.is("corner(" + height + ")", 0, new LampHills().corner(height));
        }
        LampHills hills = new LampHills();
        DUE.refused("corner(-1)", Due.ARGUMENT, hills, () -> hills.corner(-1));
        DUE.refused("corner(31)", Due.ARGUMENT, hills, () -> hills.corner(31));
        DUE.is("none was built", 0, hills.count(2));
    }

    /** "Streets join two different corners" */
    private static void differentCorners() {
        LampHills hills = Towns.corners(12);
        for (int a = 0; a < 12; a++) {
            int same = a;
            DUE.refused("street(" + a + ", " + a + ", 5)", Due.ARGUMENT, hills,
                    () -> hills.street(same, same, 5));
        }
        DUE.is("the first and the last one", 0, hills.street(0, 11, 5));
        DUE.is("the same ones again", 1, hills.street(0, 11, 5));
        DUE.is("the other way round", 2, hills.street(11, 0, 5));
    }

    /** "in both directions" */
    private static void streetsLeadBothWays() {
        LampHills hills = Towns.corners(3);
        hills.street(0, 1, 4);
        hills.street(2, 1, 5);
        DUE.is("way(0, 1)", 4, hills.way(0, 1));
        DUE.is("way(1, 0)", 4, hills.way(1, 0));
        DUE.is("way(0, 2)", 9, hills.way(0, 2));
        DUE.is("way(2, 0)", 9, hills.way(2, 0));
    }

    /** "there are at most 18, numbered likewise" */
    private static void eighteenStreets() {
        LampHills hills = Towns.corners(2);
        for (int number = 0; number < 18; number++) {
            int next = number;
            DUE.refused("burning in the next one", Due.INDEX, hills, () -> hills.burning(next));
            DUE.is("street " + number, number, hills.street(number % 2, 1 - number % 2, 9));
            DUE.is("streets", number + 1, hills.count(3));
        }
        DUE.refused("the 19th street", Due.STATE, hills, () -> hills.street(0, 1, 1));
        DUE.is("eighteen yet", 18, hills.count(3));
        DUE.is("the 19th one is not gone along", 9, hills.way(0, 1));
        DUE.is("a lamp in the last one", 0, hills.lamp(17, 2));
    }

    /** "each 1 to 9 long" */
    private static void lengthsFrom1To9() {
        for (int length = 1; length <= 9; length++) {
            LampHills hills = Towns.corners(2);
            hills.street(0, 1, length);
            DUE.is("street(0, 1, " + length + ")", length, hills.way(0, 1));
        }
        LampHills hills = Towns.corners(2);
        DUE.refused("street(0, 1, 0)", Due.ARGUMENT, hills, () -> hills.street(0, 1, 0));
        DUE.refused("street(0, 1, 10)", Due.ARGUMENT, hills, () -> hills.street(0, 1, 10));
        DUE.is("none was built", -1, hills.way(0, 1));
    }

    /** "if the corner at the end is higher than the one at the beginning, half of the difference (cut) more" */
    private static void halfOfTheDifference() {
        for (int low = 0; low <= 30; low++) {
            for (int high = low; high <= 30; high++) {
                LampHills hills = Towns.street(low, high, 0);
                DUE.is("up from " + low + " to " + high, 1 + (high - low) / 2, hills.way(0, 1));
                DUE.is("down from " + high + " to " + low, 1, hills.way(1, 0));
            }
        }
    }

    /** "The way from a corner to another one is the least such time along streets one after the other" */
    private static void leastWay() {
        LampHills hills = Towns.corners(4);
        DUE.is("without streets", -1, hills.way(0, 3));
        hills.street(0, 3, 7);
        DUE.is("one street", 7, hills.way(0, 3));
        hills.street(0, 1, 3);
        hills.street(1, 2, 2);
        DUE.is("streets that lead elsewhere", 7, hills.way(0, 3));
        hills.street(2, 3, 2);
        DUE.is("three streets as long as the one", 7, hills.way(0, 3));
        hills.street(2, 3, 1);
        DUE.is("three streets that are shorter", 6, hills.way(0, 3));
        hills.street(3, 0, 5);
        DUE.is("one that is shorter yet", 5, hills.way(0, 3));
        DUE.is("also a part of another way", 3 + 2, hills.way(0, 2));
        DUE.is("and its last part", 1, hills.way(2, 3));
    }

    /** "There are at most 20, numbered likewise; each stands in a street" */
    private static void twentyLamps() {
        LampHills hills = Towns.corners(2);
        for (int street = 0; street < 18; street++) {
            hills.street(0, 1, 1);
        }
        for (int number = 0; number < 20; number++) {
            int next = number;
            DUE.refused("needs of the next one", Due.INDEX, hills, () -> hills.needs(next));
            DUE.is("lamp " + number, number, hills.lamp((number + 17) % 18, 2));
            DUE.is("lamps", number + 1, hills.count(4));
            DUE.is("its street", (number + 17) % 18, hills.told(number, 0));
        }
        DUE.refused("the 21st lamp", Due.STATE, hills, () -> hills.lamp(0, 2));
        DUE.refused("the 21st lamp has no number", Due.INDEX, hills, () -> hills.told(20, 0));
        DUE.is("twenty yet", 20, hills.count(4));
    }

    /** "is 2 to 9 high" */
    private static void lampsFrom2To9High() {
        LampHills hills = Towns.street(0, 0, 0);
        for (int height = 2; height <= 9; height++) {
            hills.lamp(0, height);
            DUE.is("lamp(0, " + height + ")", height, hills.told(height - 2, 1));
        }
        DUE.refused("lamp(0, 1)", Due.ARGUMENT, hills, () -> hills.lamp(0, 1));
        DUE.refused("lamp(0, 10)", Due.ARGUMENT, hills, () -> hills.lamp(0, 10));
    }

    /** "has a lid, 0 to 9 (0, at first)" */
    private static void lidsFrom0To9() {
        LampHills hills = Towns.street(0, 0, 20);
        for (int lamp = 0; lamp < 20; lamp++) {
            DUE.is("the lid at first", 0, hills.told(lamp, 2));
        }
        for (int lid = 0; lid <= 9; lid++) {
            hills.lid(19, lid);
            DUE.is("lid(19, " + lid + ")", lid, hills.told(19, 2));
        }
        DUE.refused("lid(19, -1)", Due.ARGUMENT, hills, () -> hills.lid(19, -1));
        DUE.refused("lid(19, 10)", Due.ARGUMENT, hills, () -> hills.lid(19, 10));
        DUE.is("the last one that was not refused", 9, hills.told(19, 2));
        DUE.is("the lid of another one", 0, hills.told(18, 2));
    }

    /** "oil, 0 to 300 (0, at first)" */
    private static void oilOfLampsFrom0To300() {
        LampHills hills = Towns.flat(1, 999);
        DUE.is("the oil at first", 0, hills.told(0, 3));
        hills.pass(3);
        // The minute in which it is filled uses up 1 of the 300.
        DUE.is("filled up to 300", 299, hills.told(0, 3));
        DUE.is("no more was poured", 699, hills.lighter(0, 2));
        hills.setWind(0, 9);
        hills.pass(8);
        hills.fill(0, 999);
        hills.pass(3);
        DUE.is("filled up to 300 again", 299, hills.told(0, 3));
        DUE.is("what was lacking was poured", 999 - 9, hills.lighter(0, 2));
        LampHills dry = Towns.flat(1, 1);
        dry.pass(3);
        DUE.is("used up down to 0", 0, dry.told(0, 3));
        dry.pass(600);
        DUE.is("and never below", 0, dry.told(0, 3));
    }

    /** "soot, 0 to 9 (0, at first)": 300 oil do not burn so long that there is more soot than 7. */
    private static void sootFrom0() {
        LampHills hills = Towns.street(0, 0, 1);
        hills.hire(0, 9, 300);
        hills.pass(28);
        DUE.is("the soot at first", 0, hills.told(0, 4));
        hills.round(0, 0);
        hills.pass(2);
        DUE.is("not lit in the minute 29", 0, hills.told(0, 5));
        hills.pass(1);
        for (int soot = 1; soot <= 7; soot++) {
            DUE.is("behind the minute " + 30 * soot, soot, hills.told(0, 4));
            hills.pass(29);
            DUE.is("behind the minute " + (30 * soot + 29), soot, hills.told(0, 4));
            hills.pass(1);
        }
        DUE.is("out of oil in the minute 240", 0, hills.told(0, 5));
        DUE.is("the most soot there can be", 7, hills.told(0, 4));
        hills.pass(600);
        DUE.is("a dark lamp gets none", 7, hills.told(0, 4));
    }

    /** "and burns, or does not (at first)" */
    private static void lampsDoNotBurnAtFirst() {
        LampHills hills = Towns.street(0, 0, 20);
        for (int lamp = 0; lamp < 20; lamp++) {
            DUE.is("told(" + lamp + ", 5)", 0, hills.told(lamp, 5));
        }
        DUE.is("burning(0)", 0, hills.burning(0));
        DUE.is("count(5)", 0, hills.count(5));
        DUE.is("lit by nobody", 0, hills.pass(600));
    }

    /** "A street is dark, if no lamp in it burns." */
    private static void darkStreets() {
        LampHills hills = Towns.corners(2);
        DUE.is("no street", 0, hills.count(6));
        hills.street(0, 1, 1);
        DUE.is("a street without a lamp", 1, hills.count(6));
        hills.lamp(0, 2);
        hills.lamp(0, 2);
        DUE.is("a street with lamps that do not burn", 1, hills.count(6));
        hills.hire(0, 9, 301);
        hills.round(0, 0);
        hills.round(0, 1);
        hills.pass(3);
        DUE.is("one of two burns", 0, hills.count(6));
        hills.setWind(0, 4);
        hills.pass(3);
        // The second lamp gets the last oil of the can, and is out in the same minute.
        DUE.is("the other one is out again", 1, hills.burning(0));
        DUE.is("one of two burns yet", 0, hills.count(6));
        hills.setWind(0, 5);
        hills.pass(5);
        DUE.is("the wind blew it out", 1, hills.count(6));
        LampHills lit = Towns.twenty(18, 0);
        DUE.is("eighteen dark ones", 18, lit.count(6));
        Towns.lightAll(lit);
        DUE.is("none of eighteen", 0, lit.count(6));
    }

    /** "There are at most 4, numbered likewise" */
    private static void fourLighters() {
        LampHills hills = Towns.corners(1);
        for (int number = 0; number < 4; number++) {
            int next = number;
            DUE.refused("fill the next one's can", Due.INDEX, hills, () -> hills.fill(next, 1));
            DUE.is("hire " + number, number, hills.hire(0, 1 + number, 100 * number));
            DUE.is("lighters", number + 1, hills.count(7));
        }
        DUE.refused("the 5th lighter", Due.STATE, hills, () -> hills.hire(0, 1, 0));
        DUE.is("four yet", 4, hills.count(7));
        for (int number = 0; number < 4; number++) {
            DUE.is("the ladder of " + number, 1 + number, hills.lighter(number, 1));
            DUE.is("the can of " + number, 100 * number, hills.lighter(number, 2));
        }
    }

    /** "has a ladder, 1 to 9 long" */
    private static void laddersFrom1To9() {
        for (int ladder = 1; ladder <= 9; ladder++) {
            LampHills hills = Towns.corners(1);
            hills.hire(0, ladder, 0);
            DUE.is("hire(0, " + ladder + ", 0)", ladder, hills.lighter(0, 1));
        }
        LampHills hills = Towns.corners(1);
        DUE.refused("hire(0, 0, 0)", Due.ARGUMENT, hills, () -> hills.hire(0, 0, 0));
        DUE.refused("hire(0, 10, 0)", Due.ARGUMENT, hills, () -> hills.hire(0, 10, 0));
        DUE.is("none was hired", 0, hills.count(7));
    }

    /** "oil in a can, 0 to 999" */
    private static void cansFrom0To999() {
        for (int oil : new int[] {0, 1, 998, 999}) {
            LampHills hills = Towns.corners(1);
            hills.hire(0, 1, oil);
            DUE.is("hire(0, 1, " + oil + ")", oil, hills.lighter(0, 2));
            hills.fill(0, 1);
            DUE.is("1 more", oil == 999 ? 999 : oil + 1, hills.lighter(0, 2));
        }
        LampHills hills = Towns.corners(1);
        DUE.refused("hire(0, 1, -1)", Due.ARGUMENT, hills, () -> hills.hire(0, 1, -1));
        DUE.refused("hire(0, 1, 1000)", Due.ARGUMENT, hills, () -> hills.hire(0, 1, 1000));
        DUE.is("none was hired", 0, hills.count(7));
        LampHills used = Towns.flat(2, 300);
        used.pass(600);
        DUE.is("poured down to 0, and never below", 0, used.lighter(0, 2));
    }

    /** "a round: at most 10 different lamps" */
    private static void tenDifferentLamps() {
        LampHills hills = Towns.flat(10, 0);
        hills.lamp(0, 2);
        DUE.is("ten", 10, hills.lighter(0, 3));
        DUE.refused("an 11th lamp", Due.STATE, hills, () -> hills.round(0, 10));
        DUE.is("ten yet", 10, hills.lighter(0, 3));
        LampHills nine = Towns.flat(9, 0);
        nine.lamp(0, 2);
        DUE.refused("the first one again", Due.STATE, nine, () -> nine.round(0, 0));
        DUE.refused("the last one again", Due.STATE, nine, () -> nine.round(0, 8));
        DUE.is("a tenth one", 10, nine.round(0, 9));
        nine.hire(0, 9, 0);
        DUE.is("the same lamp in another round", 1, nine.round(1, 0));
    }

    /** "in the order of their adding" */
    private static void inTheOrderOfTheirAdding() {
        LampHills hills = Towns.street(0, 0, 3);
        hills.hire(0, 9, 999);
        for (int lamp : new int[] {2, 0, 1}) {
            hills.round(0, lamp);
        }
        for (int lamp : new int[] {2, 0, 1}) {
            hills.pass(3);
            DUE.is("lit in its turn", 1, hills.told(lamp, 7));
            DUE.is("filled just now", 299, hills.told(lamp, 3));
        }
    }

    /** "is at a corner (home, at first)", "and goes to a lamp, or waits (at first)" */
    private static void lightersWaitAtHomeAtFirst() {
        LampHills hills = Towns.full();
        for (int lighter = 0; lighter < 4; lighter++) {
            DUE.is("at home", lighter * 3, hills.lighter(lighter, 0));
            DUE.is("waits", -1, hills.lighter(lighter, 4));
            DUE.is("no minutes", 0, hills.lighter(lighter, 5));
            DUE.is("lit none", 0, hills.lighter(lighter, 6));
        }
        for (int lamp = 0; lamp < 20; lamp++) {
            DUE.is("nobody goes to " + lamp, -1, hills.told(lamp, 6));
        }
    }

    /** "A lighter can reach a lamp, if its height is at most the length of the ladder + 2" */
    private static void ladderAndTwo() {
        for (int ladder = 1; ladder <= 9; ladder++) {
            for (int height = 2; height <= 9; height++) {
                LampHills hills = Towns.street(0, 0, 0);
                hills.lamp(0, height);
                hills.hire(0, ladder, 999);
                hills.round(0, 0);
                DUE.is("a ladder of " + ladder + ", a lamp at " + height, height <= ladder + 2 ? 1 : 0,
                        hills.pass(3));
            }
        }
    }

    /** "and there is a way to one of both corners of its street" */
    private static void noWayToBothCorners() {
        LampHills hills = Towns.street(0, 0, 1);
        hills.corner(0);
        hills.hire(2, 9, 999);
        hills.round(0, 0);
        DUE.is("no way", 0, hills.pass(300));
        DUE.is("so this one waits", -1, hills.lighter(0, 4));
        DUE.is("comes()", -1, hills.comes(0));
        hills.street(2, 1, 9);
        DUE.is("a way to one of both", 0, hills.pass(11));
        DUE.is("9 minutes and 3 of work", 1, hills.pass(1));
        DUE.is("at that corner", 1, hills.lighter(0, 0));
    }

    /** "The nearer one of these, with the least way, is where the lighter goes." */
    private static void nearerCorner() {
        for (int first = 8; first <= 9; first++) {
            for (int second = 8; second <= 9; second++) {
                LampHills hills = Towns.corners(3);
                hills.street(1, 2, 9);
                hills.street(0, 1, first);
                hills.street(0, 2, second);
                hills.lamp(0, 2);
                hills.hire(0, 9, 999);
                hills.round(0, 0);
                DUE.is("comes()", Math.min(first, second) + 3, hills.comes(0));
                hills.pass(12);
                DUE.is("of " + first + " and " + second, second < first ? 2 : 1, hills.lighter(0, 0));
            }
        }
    }

    /** "(of both as near the one that was told first)" */
    private static void bothAsNear() {
        for (int told = 1; told <= 2; told++) {
            LampHills hills = Towns.corners(3);
            hills.street(told, 3 - told, 9);
            hills.street(0, 1, 5);
            hills.street(0, 2, 5);
            hills.lamp(0, 2);
            hills.hire(0, 9, 999);
            hills.round(0, 0);
            hills.pass(8);
            DUE.is("told first was " + told, told, hills.lighter(0, 0));
        }
        LampHills low = new LampHills();
        low.corner(0);
        low.corner(2);
        low.corner(0);
        low.street(1, 2, 9);
        low.street(0, 1, 4);
        low.street(0, 2, 5);
        low.lamp(0, 2);
        low.hire(0, 9, 999);
        low.round(0, 0);
        low.pass(8);
        DUE.is("4 and 1 up is as near as 5", 1, low.lighter(0, 0));
    }

    /** "A table tells for each of 10 hours (minute / 60) a wind" */
    private static void tenHours() {
        LampHills hills = new LampHills();
        DUE.refused("setWind(-1, 0)", Due.INDEX, hills, () -> hills.setWind(-1, 0));
        DUE.refused("setWind(10, 0)", Due.INDEX, hills, () -> hills.setWind(10, 0));
        for (int minute = 10; minute < 600; minute += 10) {
            for (int hour = 0; hour < 10; hour++) {
                DUE.is("the wind of the hour " + hour + " in the minute " + minute,
                        minute / 60 == hour ? 1 : 0, timesBlownOut(hour, minute));
            }
        }
    }

    /** The lamp is lit in the minute before, and this one is the last that goes by. */
    private static int timesBlownOut(int hour, int minute) {
        LampHills hills = Towns.street(0, 0, 1);
        hills.hire(0, 9, 999);
        hills.setWind(hour, 5);
        hills.pass(minute - 3);
        hills.round(0, 0);
        hills.pass(4);
        return hills.told(0, 8);
    }

    /** "a wind, 0 to 9 (0, at first)" */
    private static void windFrom0To9() {
        LampHills hills = new LampHills();
        for (int hour = 0; hour < 10; hour++) {
            DUE.is("at first", 0, hills.setWind(hour, 9));
            DUE.is("the greatest", 9, hills.setWind(hour, 0));
            DUE.is("the least", 0, hills.setWind(hour, hour));
        }
        for (int hour = 0; hour < 10; hour++) {
            int of = hour;
            DUE.refused("setWind(" + hour + ", -1)", Due.ARGUMENT, hills, () -> hills.setWind(of, -1));
            DUE.refused("setWind(" + hour + ", 10)", Due.ARGUMENT, hills, () -> hills.setWind(of, 10));
            DUE.is("as it was before", hour, hills.setWind(hour, 0));
        }
    }
}
