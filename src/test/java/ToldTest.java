/** Promises 10 to 14: way, told, lighter, burning, count. */
final class ToldTest {
    private static final Due DUE = new Due();
    private static final int[] FAR_OUT = {Integer.MIN_VALUE, -2, -1, 100, Integer.MAX_VALUE};

    public static void main(String[] args) {
        wayUpAndDown();
        wayByCorners();
        wayOfManyCorners();
        told();
        lighter();
        burningAndCount();
        DUE.end();
    }

    private static void wayUpAndDown() {
        LampHills hills = new LampHills();
        DUE.refused("way without corners", Due.INDEX, hills, () -> hills.way(0, 0));
        hills.corner(4);
        hills.corner(9);
        hills.corner(5);
        DUE.is("the way from a corner to itself", 0, hills.way(0, 0));
        DUE.is("no way", -1, hills.way(0, 1));
        hills.street(0, 1, 3);
        hills.street(0, 2, 3);
        DUE.is("up by 5", 5, hills.way(0, 1));
        DUE.is("down by 5", 3, hills.way(1, 0));
        DUE.is("up by 1", 3, hills.way(0, 2));
        DUE.is("down by 1", 3, hills.way(2, 0));
        DUE.is("down by 1, up by 5", 8, hills.way(2, 1));
        DUE.refused("way(3, 0)", Due.INDEX, hills, () -> hills.way(3, 0));
        DUE.refused("way(0, 3)", Due.INDEX, hills, () -> hills.way(0, 3));
        for (int far : FAR_OUT) {
            DUE.refused("way(" + far + ", 0)", Due.INDEX, hills, () -> hills.way(far, 0));
            DUE.refused("way(0, " + far + ")", Due.INDEX, hills, () -> hills.way(0, far));
        }
    }

    private static void wayByCorners() {
        LampHills hills = new LampHills();
        hills.corner(0);
        hills.corner(15);
        hills.corner(30);
        hills.corner(30);
        hills.street(0, 2, 9);
        DUE.is("the only street", 24, hills.way(0, 2));
        hills.street(0, 1, 1);
        hills.street(2, 1, 1);
        DUE.is("two short streets up", 16, hills.way(0, 2));
        DUE.is("two short streets down", 2, hills.way(2, 0));
        DUE.is("no way up", -1, hills.way(0, 3));
        DUE.is("no way down", -1, hills.way(3, 0));
        hills.street(3, 2, 7);
        DUE.is("a way up", 23, hills.way(0, 3));
        DUE.is("a way down", 9, hills.way(3, 0));
        hills.street(3, 2, 8);
        DUE.is("a longer street beside it", 23, hills.way(0, 3));
        hills.street(3, 2, 2);
        DUE.is("a shorter street beside it", 18, hills.way(0, 3));
    }

    private static void wayOfManyCorners() {
        LampHills hills = new LampHills();
        for (int corner = 0; corner < 12; corner++) {
            hills.corner(corner % 2 * 30);
        }
        for (int corner = 1; corner < 12; corner += 2) {
            hills.street(corner - 1, corner, 9);
        }
        DUE.is("parts that are not joined", -1, hills.way(0, 11));
        for (int corner = 2; corner < 12; corner += 2) {
            hills.street(corner, corner - 1, 9);
        }
        DUE.is("the longest way there is", 11 * 9 + 6 * 15, hills.way(0, 11));
        DUE.is("and back", 11 * 9 + 5 * 15, hills.way(11, 0));
    }

    private static LampHills withWalker() {
        LampHills hills = new LampHills();
        hills.corner(0);
        hills.corner(25);
        hills.corner(0);
        hills.street(0, 1, 4);
        hills.street(1, 2, 2);
        hills.lamp(0, 3);
        hills.lamp(1, 4);
        hills.lid(1, 5);
        hills.hire(0, 2, 310);
        hills.round(0, 1);
        hills.round(0, 0);
        return hills;
    }

    private static void dueTold(LampHills hills, String when, int lamp, int... want) {
        for (int what = 0; what < 9; what++) {
            DUE.is(when + ": told(" + lamp + ", " + what + ")", want[what], hills.told(lamp, what));
        }
    }

    private static void dueLighter(LampHills hills, String when, int lighter, int... want) {
        for (int what = 0; what < 7; what++) {
            DUE.is(when + ": lighter(" + lighter + ", " + what + ")", want[what],
                    hills.lighter(lighter, what));
        }
    }

    private static void told() {
        LampHills hills = withWalker();
        DUE.refused("told(2, 0)", Due.INDEX, hills, () -> hills.told(2, 0));
        DUE.refused("told(0, 9)", Due.INDEX, hills, () -> hills.told(0, 9));
        for (int far : FAR_OUT) {
            DUE.refused("told(" + far + ", 0)", Due.INDEX, hills, () -> hills.told(far, 0));
            DUE.refused("told(0, " + far + ")", Due.INDEX, hills, () -> hills.told(0, far));
        }
        dueTold(hills, "at first", 1, 1, 4, 5, 0, 0, 0, -1, 0, 0);
        hills.pass(1);
        dueTold(hills, "setting out", 1, 1, 4, 5, 0, 0, 0, 0, 0, 0);
        // The way up is 4 + 12, so with 3 minutes of work the lamp is lit in the 19th minute.
        hills.pass(17);
        dueTold(hills, "before the light", 1, 1, 4, 5, 0, 0, 0, 0, 0, 0);
        hills.pass(1);
        dueTold(hills, "with the light", 1, 1, 4, 5, 299, 0, 1, -1, 1, 0);
        dueTold(hills, "the other one", 0, 0, 3, 0, 0, 0, 0, -1, 0, 0);
        hills.pass(12);
        dueTold(hills, "behind the minute 30", 1, 1, 4, 5, 287, 1, 1, -1, 1, 0);
        hills.setWind(0, 8);
        hills.pass(10);
        dueTold(hills, "behind the minute 40", 1, 1, 4, 5, 277, 1, 0, -1, 1, 1);
    }

    private static void lighter() {
        LampHills hills = withWalker();
        DUE.refused("lighter(1, 0)", Due.INDEX, hills, () -> hills.lighter(1, 0));
        DUE.refused("lighter(0, 7)", Due.INDEX, hills, () -> hills.lighter(0, 7));
        for (int far : FAR_OUT) {
            DUE.refused("lighter(" + far + ", 0)", Due.INDEX, hills, () -> hills.lighter(far, 0));
            DUE.refused("lighter(0, " + far + ")", Due.INDEX, hills, () -> hills.lighter(0, far));
        }
        dueLighter(hills, "at first", 0, 0, 2, 310, 2, -1, 0, 0);
        hills.pass(1);
        dueLighter(hills, "setting out", 0, 0, 2, 310, 2, 1, 18, 0);
        hills.pass(17);
        dueLighter(hills, "before the light", 0, 0, 2, 310, 2, 1, 1, 0);
        hills.pass(1);
        dueLighter(hills, "with the light", 0, 1, 2, 10, 2, -1, 0, 1);
        hills.pass(1);
        dueLighter(hills, "setting out again", 0, 1, 2, 10, 2, 0, 2, 1);
        hills.pass(2);
        dueLighter(hills, "with both lights", 0, 1, 2, 0, 2, -1, 0, 2);
    }

    private static void burningAndCount() {
        LampHills hills = withWalker();
        DUE.refused("burning(2)", Due.INDEX, hills, () -> hills.burning(2));
        DUE.refused("count(10)", Due.INDEX, hills, () -> hills.count(10));
        for (int far : FAR_OUT) {
            DUE.refused("burning(" + far + ")", Due.INDEX, hills, () -> hills.burning(far));
            DUE.refused("count(" + far + ")", Due.INDEX, hills, () -> hills.count(far));
        }
        dueCount(hills, "at first", 0, 0, 3, 2, 2, 0, 2, 1, 0, 0);
        hills.pass(19);
        dueCount(hills, "with the light", 19, 0, 3, 2, 2, 1, 1, 1, 299, 1);
        DUE.is("burning(0)", 0, hills.burning(0));
        DUE.is("burning(1)", 1, hills.burning(1));
        hills.lid(0, 9);
        hills.street(0, 2, 1);
        hills.lamp(1, 2);
        hills.round(0, 2);
        hills.fill(0, 10);
        hills.pass(6);
        // The lamp 0 was lit in the 22nd minute with all 20 oil of the can; none is left for the lamp 2.
        dueCount(hills, "with two lights", 25, 0, 3, 3, 3, 2, 1, 1, 293 + 16, 7 + 4);
        DUE.is("burning(0)", 1, hills.burning(0));
        hills.fill(0, 5);
        hills.pass(4);
        DUE.is("two in a street", 2, hills.burning(1));
        hills.pass(571);
        hills.pass(600);
        DUE.is("count(0) at the end", 600, hills.count(0));
        hills.dawn();
        dueCount(hills, "the next night", 0, 1, 3, 3, 3, 0, 3, 1, 0, 325);
    }

    private static void dueCount(LampHills hills, String when, int... want) {
        for (int what = 0; what < 10; what++) {
            DUE.is(when + ": count(" + what + ")", want[what], hills.count(what));
        }
    }
}
