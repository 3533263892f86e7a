/** How a minute goes: each sentence of the document's four steps that names an edge, in its order. */
final class MinuteEdgesTest {
    private static final Due DUE = new Due();

    public static void main(String[] args) {
        onlyOneThatWaitsLooks();
        withTheFirstOneInThisNight();
        behindTheLatestOne();
        andRound();
        thatOneLast();
        theFirstThatDoesNotBurn();
        theFirstThatCanBeReached();
        theFirstToWhichNoOtherGoes();
        noneOfTheRound();
        oilInTheCanOrInTheLamp();
        noneBehindTheOneWithoutOil();
        theWayAndThreeMinutes();
        thatMinuteCounts();
        asFarAsThereIsSome();
        upTo300();
        cleansIt();
        waitsFromNowOn();
        oneOrTwoOil();
        noMoreThanItHas();
        withoutOilItGoesOut();
        minutesDividedBy30();
        minutesDividedBy10();
        moreThanTheLidAnd4();
        theHigherCorner();
        onlyBurningLampsAreBlownOut();
        lightThenOilThenWind();
        theMinuteIsOneGreater();
        twentyLampsAtOnce();
        DUE.end();
    }

    private static void dueLamp(String when, LampHills hills, int lamp, int oil, int soot, int burns) {
        DUE.is(when + ": the oil of " + lamp, oil, hills.told(lamp, 3));
        DUE.is(when + ": the soot of " + lamp, soot, hills.told(lamp, 4));
        DUE.is(when + ": " + lamp + " burns", burns, hills.told(lamp, 5));
    }

    // ---- 1. Lighters

    /** "One that waits looks for a lamp": one that goes to a lamp does not. */
    private static void onlyOneThatWaitsLooks() {
        LampHills hills = Towns.corners(3);
        hills.street(0, 1, 9);
        hills.street(1, 2, 9);
        hills.lamp(0, 2);
        hills.lamp(1, 2);
        hills.hire(0, 9, 999);
        hills.round(0, 1);
        hills.pass(1);
        hills.round(0, 0);
        hills.pass(10);
        DUE.is("to the far one yet", 1, hills.lighter(0, 4));
        DUE.is("nobody goes to the near one", -1, hills.told(0, 6));
        hills.pass(1);
        DUE.is("the far one is lit", 1, hills.told(1, 5));
        DUE.is("the near one is not", 0, hills.told(0, 5));
    }

    /** "with the first one, if there was none in this night" */
    private static void withTheFirstOneInThisNight() {
        LampHills hills = Towns.flat(3, 10);
        hills.pass(1);
        DUE.is("the first one in the first night", 0, hills.lighter(0, 4));
        hills.pass(600);
        hills.dawn();
        hills.fill(0, 10);
        hills.pass(1);
        DUE.is("the first one in the next night", 0, hills.lighter(0, 4));
        LampHills late = Towns.street(0, 0, 2);
        late.hire(0, 9, 999);
        late.pass(500);
        late.round(0, 1);
        late.round(0, 0);
        late.pass(1);
        DUE.is("the first one of a round that was empty for long", 1, late.lighter(0, 4));
    }

    /** "beginning behind the one to which this one went the latest time" */
    private static void behindTheLatestOne() {
        LampHills hills = Towns.flat(3, 0);
        // With 1 oil a lamp is out in the minute in which it is lit, so all three are always dark.
        for (int time = 0; time < 3; time++) {
            hills.fill(0, 1);
            hills.pass(1);
            DUE.is("time " + time, time, hills.lighter(0, 4));
            hills.pass(2);
        }
    }

    /** "and round" */
    private static void andRound() {
        for (int size = 2; size <= 10; size++) {
            LampHills hills = Towns.flat(size, 0);
            for (int time = 0; time < 2 * size + 1; time++) {
                hills.fill(0, 1);
                hills.pass(1);
                DUE.is("a round of " + size + ", time " + time, time % size, hills.lighter(0, 4));
                hills.pass(2);
            }
        }
    }

    /** "that one last" */
    private static void thatOneLast() {
        LampHills alone = Towns.flat(1, 1);
        alone.pass(3);
        alone.fill(0, 1);
        DUE.is("the only one again", 1, alone.pass(3));
        LampHills two = Towns.flat(2, 600);
        two.setWind(0, 5);
        two.pass(6);
        DUE.is("both burn", 2, two.count(5));
        two.lid(0, 1);
        two.pass(5);
        DUE.is("the wind blew out the latest one", 0, two.told(1, 5));
        two.pass(1);
        DUE.is("there is no other", 1, two.lighter(0, 4));
        LampHills both = Towns.flat(2, 600);
        both.setWind(0, 5);
        both.pass(12);
        DUE.is("the other one goes before the latest one", 0, both.lighter(0, 4));
    }

    /** "the first lamp that does not burn" */
    private static void theFirstThatDoesNotBurn() {
        LampHills hills = Towns.street(0, 0, 3);
        hills.hire(0, 9, 999);
        hills.hire(0, 9, 999);
        hills.round(1, 0);
        hills.round(1, 1);
        hills.pass(6);
        for (int lamp = 0; lamp < 3; lamp++) {
            hills.round(0, lamp);
        }
        hills.pass(1);
        DUE.is("the two that burn are left out", 2, hills.lighter(0, 4));
    }

    /** "that this one can reach" */
    private static void theFirstThatCanBeReached() {
        LampHills hills = Towns.corners(4);
        hills.street(2, 3, 1);
        hills.street(0, 1, 1);
        hills.lamp(0, 2);
        hills.lamp(1, 9);
        hills.lamp(1, 8);
        hills.hire(0, 6, 999);
        for (int lamp = 0; lamp < 3; lamp++) {
            hills.round(0, lamp);
        }
        hills.pass(1);
        DUE.is("no way to the first one, and the second one is too high", 2, hills.lighter(0, 4));
    }

    /** "and to which no other lighter goes" */
    private static void theFirstToWhichNoOtherGoes() {
        LampHills hills = Towns.street(0, 0, 4);
        for (int lighter = 0; lighter < 4; lighter++) {
            hills.hire(lighter % 2, 9, 300);
            for (int lamp = 0; lamp < 4; lamp++) {
                hills.round(lighter, lamp);
            }
        }
        hills.pass(1);
        for (int lighter = 0; lighter < 4; lighter++) {
            DUE.is("each one has its own", lighter, hills.lighter(lighter, 4));
            DUE.is("and is told with it", lighter, hills.told(lighter, 6));
        }
        DUE.is("all are lit at once", 4, hills.pass(2));
    }

    /** "If there is one": one that finds none waits, and the minutes go by. */
    private static void noneOfTheRound() {
        LampHills empty = Towns.flat(0, 999);
        DUE.is("an empty round", 0, empty.pass(600));
        DUE.is("waits", -1, empty.lighter(0, 4));
        DUE.is("no minutes", 0, empty.lighter(0, 5));
        LampHills burning = Towns.flat(1, 999);
        burning.pass(50);
        DUE.is("all of the round burn", -1, burning.lighter(0, 4));
        LampHills taken = Towns.flat(1, 999);
        taken.hire(1, 9, 999);
        taken.round(1, 0);
        taken.pass(1);
        DUE.is("another one goes to the only one", -1, taken.lighter(1, 4));
    }

    /** "and there is oil in the can or in the lamp" */
    private static void oilInTheCanOrInTheLamp() {
        LampHills none = Towns.flat(1, 0);
        DUE.is("none in both", 0, none.pass(100));
        DUE.is("so this one waits", -1, none.lighter(0, 4));
        none.fill(0, 1);
        DUE.is("1 in the can", 1, none.pass(3));
        LampHills lamp = Towns.flat(1, 10);
        lamp.setWind(0, 5);
        // Lit in the minute 2 with all 10 oil, the lamp has 1 left when the wind comes.
        lamp.pass(11);
        dueLamp("behind the wind", lamp, 0, 1, 0, 0);
        DUE.is("none in the can", 0, lamp.lighter(0, 2));
        DUE.is("1 in the lamp", 1, lamp.pass(3));
        dueLamp("lit with its last oil", lamp, 0, 0, 0, 0);
        DUE.is("none in both again", 0, lamp.pass(100));
    }

    /** The oil is asked for when the lamp was found: the search does not go on behind it. */
    private static void noneBehindTheOneWithoutOil() {
        LampHills hills = Towns.flat(2, 30);
        hills.setWind(0, 5);
        hills.pass(11);
        dueLamp("behind the wind", hills, 0, 21, 0, 0);
        DUE.is("the second one has none, nor the can", 0, hills.pass(589));
        dueLamp("till the end", hills, 0, 21, 0, 0);
    }

    /** "it takes the way to the nearer corner, and 3 minutes of work" */
    private static void theWayAndThreeMinutes() {
        LampHills none = Towns.flat(1, 999);
        DUE.is("a way of 0", 0, none.pass(2));
        DUE.is("and 3 of work", 1, none.pass(1));
        for (int length = 1; length <= 9; length++) {
            for (int height = 0; height <= 30; height += 30) {
                LampHills hills = new LampHills();
                hills.corner(0);
                hills.corner(height);
                hills.corner(height);
                hills.street(0, 1, length);
                hills.street(1, 2, 1);
                hills.lamp(1, 2);
                hills.hire(0, 9, 999);
                hills.round(0, 0);
                int minutes = length + height / 2 + 3;
                DUE.is("a minute before", 0, hills.pass(minutes - 1));
                DUE.is("is where this one was, setting out", 0, hills.lighter(0, 0));
                DUE.is(minutes + " minutes", 1, hills.pass(1));
                DUE.is("is at the nearer corner", 1, hills.lighter(0, 0));
            }
        }
    }

    /** "Then one that goes to a lamp has a minute less of this": also in the minute of the setting out. */
    private static void thatMinuteCounts() {
        LampHills hills = Towns.flat(1, 999);
        for (int left = 2; left >= 0; left--) {
            hills.pass(1);
            DUE.is("minutes left", left, hills.lighter(0, 5));
            DUE.is("the lamp", left == 0 ? -1 : 0, hills.lighter(0, 4));
            DUE.is("it burns", left == 0 ? 1 : 0, hills.told(0, 5));
        }
    }

    /** "as far as there is some" */
    private static void asFarAsThereIsSome() {
        for (int can : new int[] {1, 2, 298, 299}) {
            LampHills hills = Towns.flat(1, can);
            hills.pass(3);
            dueLamp("a can of " + can, hills, 0, can - 1, 0, can == 1 ? 0 : 1);
            DUE.is("the can is empty", 0, hills.lighter(0, 2));
        }
    }

    /** "up to 300" */
    private static void upTo300() {
        for (int can : new int[] {300, 301, 998, 999}) {
            LampHills hills = Towns.flat(1, can);
            hills.pass(3);
            dueLamp("a can of " + can, hills, 0, 299, 0, 1);
            DUE.is("what is left of " + can, can - 300, hills.lighter(0, 2));
        }
        for (int more : new int[] {8, 9, 10}) {
            LampHills hills = Towns.flat(1, 300);
            hills.setWind(0, 5);
            hills.pass(11);
            dueLamp("9 are lacking", hills, 0, 291, 0, 0);
            hills.fill(0, more);
            hills.pass(3);
            dueLamp(more + " more", hills, 0, 290 + Math.min(9, more), 0, 1);
            DUE.is("what is left of " + more, more == 10 ? 1 : 0, hills.lighter(0, 2));
        }
    }

    /** "cleans it (soot 0)" */
    private static void cleansIt() {
        LampHills hills = Towns.flat(1, 999);
        hills.setWind(1, 5);
        hills.pass(61);
        // The wind of the minute 60 comes behind its soot.
        dueLamp("blown out with soot", hills, 0, 300 - 59, 2, 0);
        hills.pass(2);
        dueLamp("before the work is done", hills, 0, 300 - 59, 2, 0);
        hills.pass(1);
        dueLamp("clean", hills, 0, 299, 0, 1);
    }

    /** "and the lighter waits from now on": a next lamp is looked for in the next minute. */
    private static void waitsFromNowOn() {
        LampHills hills = Towns.flat(2, 999);
        hills.pass(3);
        DUE.is("waits", -1, hills.lighter(0, 4));
        DUE.is("no minutes", 0, hills.lighter(0, 5));
        hills.pass(1);
        DUE.is("goes to the next one", 1, hills.lighter(0, 4));
        DUE.is("with 2 minutes left", 2, hills.lighter(0, 5));
    }

    // ---- 2. Oil and soot

    /** "Each burning lamp uses up 1 oil, with a soot of 5 or more 2" */
    private static void oneOrTwoOil() {
        LampHills hills = Towns.flat(1, 999);
        hills.pass(3);
        int oil = 299;
        for (int minute = 3; minute <= 225; minute++) {
            int soot = (minute - 1) / 30;
            if (minute % 30 == 1) {
                DUE.is("the soot before the minute " + minute, soot, hills.told(0, 4));
            }
            hills.pass(1);
            oil -= soot >= 5 ? 2 : 1;
            DUE.is("the oil behind the minute " + minute, oil, hills.told(0, 3));
        }
        DUE.is("the last oil", 1, oil);
    }

    /** "but no more than it has" */
    private static void noMoreThanItHas() {
        LampHills odd = Towns.flat(1, 300);
        odd.pass(226);
        dueLamp("1 of 300 is left", odd, 0, 1, 7, 1);
        odd.pass(1);
        dueLamp("it has 1, not 2", odd, 0, 0, 7, 0);
        DUE.is("300 were used up", 300, odd.count(9));
        LampHills even = Towns.flat(1, 299);
        even.pass(225);
        dueLamp("2 of 299 are left", even, 0, 2, 7, 1);
        even.pass(1);
        dueLamp("it has just 2", even, 0, 0, 7, 0);
        DUE.is("299 were used up", 299, even.count(9));
    }

    /** "without oil it goes out" */
    private static void withoutOilItGoesOut() {
        LampHills hills = Towns.flat(1, 2);
        hills.pass(3);
        dueLamp("1 is left", hills, 0, 1, 0, 1);
        DUE.is("burning(0)", 1, hills.burning(0));
        hills.pass(1);
        dueLamp("none is left", hills, 0, 0, 0, 0);
        DUE.is("burning(0)", 0, hills.burning(0));
        DUE.is("no wind blew it out", 0, hills.told(0, 8));
        LampHills once = Towns.flat(1, 1);
        DUE.is("lit with 1", 1, once.pass(3));
        dueLamp("out in the same minute", once, 0, 0, 0, 0);
        DUE.is("lit all the same", 1, once.told(0, 7));
        DUE.is("by the lighter", 1, once.lighter(0, 6));
    }

    /** "In minutes that can be divided by 30 each burning lamp has 1 more soot" */
    private static void minutesDividedBy30() {
        for (int minute = 30; minute < 600; minute += 30) {
            for (int lit = minute - 1; lit <= minute + 1; lit++) {
                LampHills hills = Towns.street(0, 0, 1);
                hills.hire(0, 9, 999);
                hills.pass(lit - 2);
                hills.round(0, 0);
                hills.pass(3);
                DUE.is("lit in the minute " + lit, lit == minute ? 1 : 0, hills.told(0, 4));
                hills.pass(1);
                DUE.is("a minute later", lit <= minute ? 1 : 0, hills.told(0, 4));
            }
        }
    }

    // ---- 3. Wind

    /** "In minutes that can be divided by 10 each burning lamp goes out, if the wind ..." */
    private static void minutesDividedBy10() {
        for (int lit = 9; lit <= 21; lit++) {
            LampHills hills = Towns.street(0, 0, 1);
            hills.hire(0, 9, 999);
            hills.setWind(0, 9);
            hills.pass(lit - 2);
            hills.round(0, 0);
            hills.pass(3);
            DUE.is("lit in the minute " + lit, lit % 10 == 0 ? 1 : 0, hills.told(0, 8));
            hills.pass(1);
            DUE.is("a minute later", lit % 10 == 0 || lit % 10 == 9 ? 1 : 0, hills.told(0, 8));
        }
    }

    /** "are more than its lid + 4" */
    private static void moreThanTheLidAnd4() {
        for (int lid = 0; lid <= 9; lid++) {
            for (int wind = 0; wind <= 9; wind++) {
                String text = "wind " + wind + ", lid " + lid;
                DUE.is(text, wind > lid + 4 ? 1 : 0, timesBlownOut(0, 0, wind, lid));
                DUE.is(text + " high up", wind + 3 > lid + 4 ? 1 : 0, timesBlownOut(30, 0, wind, lid));
            }
        }
    }

    /** "the height of the higher corner of its street / 10" */
    private static void theHigherCorner() {
        for (int height = 0; height <= 30; height++) {
            for (int wind = 1; wind <= 5; wind++) {
                int out = wind + height / 10 > 4 ? 1 : 0;
                DUE.is("first " + height + ", wind " + wind, out, timesBlownOut(height, 0, wind, 0));
                DUE.is("second " + height + ", wind " + wind, out, timesBlownOut(0, height, wind, 0));
            }
        }
    }

    private static int timesBlownOut(int first, int second, int wind, int lid) {
        LampHills hills = Towns.street(first, second, 1);
        hills.hire(0, 9, 999);
        hills.round(0, 0);
        hills.setWind(0, wind);
        hills.lid(0, lid);
        hills.pass(11);
        DUE.is("it burns, or is out", 1, hills.told(0, 5) + hills.told(0, 8));
        return hills.told(0, 8);
    }

    /** "each burning lamp goes out": one that does not burn is not blown out again. */
    private static void onlyBurningLampsAreBlownOut() {
        LampHills hills = Towns.street(0, 0, 2);
        hills.hire(0, 9, 300);
        hills.hire(0, 1, 0);
        hills.setWind(0, 9);
        hills.round(0, 0);
        hills.round(0, 1);
        hills.pass(60);
        // The only oil is in the lamp 0, and the lighter waits for some for the lamp 1.
        DUE.is("once, though the wind came five times", 1, hills.told(0, 8));
        DUE.is("never lit, never blown out", 0, hills.told(1, 8));
    }

    /** The steps come in their order: lit in the minute 10 or 30, a lamp has all of them in it. */
    private static void lightThenOilThenWind() {
        LampHills hills = Towns.street(0, 0, 1);
        hills.hire(0, 9, 999);
        hills.setWind(0, 5);
        hills.pass(8);
        hills.round(0, 0);
        DUE.is("lit in the minute 10", 1, hills.pass(3));
        dueLamp("oil, then the wind", hills, 0, 299, 0, 0);
        DUE.is("blown out at once", 1, hills.told(0, 8));
        LampHills soot = Towns.street(0, 0, 1);
        soot.hire(0, 9, 999);
        soot.setWind(0, 5);
        soot.pass(28);
        soot.round(0, 0);
        DUE.is("lit in the minute 30", 1, soot.pass(3));
        dueLamp("oil, soot, then the wind", soot, 0, 299, 1, 0);
        LampHills dry = Towns.street(0, 0, 1);
        dry.hire(0, 9, 1);
        dry.setWind(0, 5);
        dry.pass(28);
        dry.round(0, 0);
        DUE.is("lit in the minute 30 with 1 oil", 1, dry.pass(3));
        dueLamp("no soot without oil", dry, 0, 0, 0, 0);
        DUE.is("no wind without light", 0, dry.told(0, 8));
    }

    // ---- 4. The minute

    /** "The minute is 1 greater." */
    private static void theMinuteIsOneGreater() {
        LampHills hills = Towns.flat(1, 999);
        for (int minute = 0; minute < 240; minute++) {
            DUE.is("count(0)", minute, hills.count(0));
            hills.pass(1);
        }
        hills.pass(359);
        DUE.is("before the last one", 599, hills.count(0));
        hills.pass(1);
        DUE.is("behind the last one", 600, hills.count(0));
    }

    /** Each step goes for each lamp and each lighter up to the last ones there can be. */
    private static void twentyLampsAtOnce() {
        LampHills hills = Towns.twenty(1, 0);
        hills.setWind(0, 5);
        for (int lamp = 0; lamp < 20; lamp++) {
            hills.lid(lamp, 1);
        }
        DUE.is("all are lit", 20, Towns.lightAll(hills));
        DUE.is("all burn", 20, hills.count(5));
        hills.pass(16);
        for (int lamp = 0; lamp < 20; lamp++) {
            dueLamp("behind the minute 30", hills, lamp, 300 - 29 + 3 * (lamp % 5), 1, 1);
        }
        for (int lamp = 0; lamp < 20; lamp++) {
            hills.lid(lamp, 0);
        }
        hills.pass(10);
        DUE.is("none burns", 0, hills.count(5));
        for (int lamp = 0; lamp < 20; lamp++) {
            DUE.is("blown out in the minute 40", 1, hills.told(lamp, 8));
        }
    }
}
