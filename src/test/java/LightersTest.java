/** Promises 7 to 9: hire, round, fill. */
final class LightersTest {
    private static final Due DUE = new Due();
    private static final int[] FAR_OUT = {Integer.MIN_VALUE, -2, -1, 1000, Integer.MAX_VALUE};

    public static void main(String[] args) {
        hire();
        hireInTheNight();
        round();
        roundInTheNight();
        fill();
        DUE.end();
    }

    private static void hire() {
        LampHills hills = new LampHills();
        DUE.refused("hire without corners", Due.INDEX, hills, () -> hills.hire(0, 0, -1));
        hills.corner(0);
        hills.corner(0);
        DUE.refused("hire(2, 1, 0)", Due.INDEX, hills, () -> hills.hire(2, 1, 0));
        DUE.refused("hire(0, 0, 0)", Due.ARGUMENT, hills, () -> hills.hire(0, 0, 0));
        DUE.refused("hire(0, 10, 0)", Due.ARGUMENT, hills, () -> hills.hire(0, 10, 0));
        DUE.refused("hire(0, 1, 1000)", Due.ARGUMENT, hills, () -> hills.hire(0, 1, 1000));
        for (int far : FAR_OUT) {
            DUE.refused("hire(" + far + ", 0, 0)", Due.INDEX, hills, () -> hills.hire(far, 0, 0));
            DUE.refused("hire(0, " + far + ", 0)", Due.ARGUMENT, hills, () -> hills.hire(0, far, 0));
            DUE.refused("hire(0, 1, " + far + ")", Due.ARGUMENT, hills, () -> hills.hire(0, 1, far));
        }
        DUE.is("hire(1, 9, 999)", 0, hills.hire(1, 9, 999));
        int[] hired = {1, 9, 999, 0, -1, 0, 0};
        for (int what = 0; what < 7; what++) {
            DUE.is("new lighter: lighter(0, " + what + ")", hired[what], hills.lighter(0, what));
        }
        for (int number = 1; number < 4; number++) {
            DUE.is("hire(0, 1, 0)", number, hills.hire(0, 1, 0));
            DUE.is("count(7)", number + 1, hills.count(7));
        }
        DUE.refused("5th hire(0, 1, 0)", Due.STATE, hills, () -> hills.hire(0, 1, 0));
        DUE.refused("5th hire(0, 10, 0)", Due.ARGUMENT, hills, () -> hills.hire(0, 10, 0));
        DUE.refused("5th hire(0, 1, 1000)", Due.ARGUMENT, hills, () -> hills.hire(0, 1, 1000));
        DUE.refused("5th hire(2, 10, 0)", Due.INDEX, hills, () -> hills.hire(2, 10, 0));
    }

    private static void hireInTheNight() {
        LampHills hills = street();
        hills.lamp(0, 2);
        hills.pass(100);
        hills.hire(1, 1, 50);
        hills.round(0, 0);
        DUE.is("who is hired late sets out from the home", 1, hills.lighter(0, 0));
        DUE.is("the lamp is lit", 1, hills.pass(3));
    }

    private static LampHills street() {
        LampHills hills = new LampHills();
        hills.corner(0);
        hills.corner(0);
        hills.street(0, 1, 5);
        return hills;
    }

    private static void round() {
        LampHills hills = street();
        hills.hire(0, 9, 0);
        DUE.refused("round(0, 0) without lamps", Due.INDEX, hills, () -> hills.round(0, 0));
        for (int lamp = 0; lamp < 12; lamp++) {
            hills.lamp(0, 2);
        }
        hills.hire(0, 9, 0);
        DUE.refused("round(2, 0)", Due.INDEX, hills, () -> hills.round(2, 0));
        DUE.refused("round(0, 12)", Due.INDEX, hills, () -> hills.round(0, 12));
        for (int far : FAR_OUT) {
            DUE.refused("round(" + far + ", 0)", Due.INDEX, hills, () -> hills.round(far, 0));
            DUE.refused("round(0, " + far + ")", Due.INDEX, hills, () -> hills.round(0, far));
        }
        for (int size = 1; size <= 10; size++) {
            int lamp = 12 - size;
            DUE.is("round(0, " + lamp + ")", size, hills.round(0, lamp));
            DUE.is("lighter(0, 3)", size, hills.lighter(0, 3));
            DUE.refused("round(0, " + lamp + ") again", Due.STATE, hills, () -> hills.round(0, lamp));
        }
        DUE.refused("an 11th lamp", Due.STATE, hills, () -> hills.round(0, 0));
        DUE.refused("an 11th lamp that is none", Due.INDEX, hills, () -> hills.round(0, 12));
        DUE.is("the other one's round", 0, hills.lighter(1, 3));
        DUE.is("the same lamp for another one", 1, hills.round(1, 11));
    }

    private static void roundInTheNight() {
        LampHills hills = street();
        hills.lamp(0, 2);
        hills.lamp(0, 2);
        hills.hire(0, 1, 999);
        hills.round(0, 0);
        hills.pass(3);
        hills.lid(0, 9);
        hills.round(0, 1);
        hills.pass(1);
        DUE.is("a lamp that is added is gone to behind the others", 1, hills.lighter(0, 4));
    }

    private static void fill() {
        LampHills hills = new LampHills();
        hills.corner(0);
        DUE.refused("fill without lighters", Due.INDEX, hills, () -> hills.fill(0, 0));
        hills.hire(0, 1, 0);
        hills.hire(0, 1, 990);
        DUE.is("fill(0, 1)", 1, hills.fill(0, 1));
        DUE.is("fill(0, 997)", 998, hills.fill(0, 997));
        DUE.is("fill(0, 1)", 999, hills.fill(0, 1));
        DUE.is("fill(0, 999)", 999, hills.fill(0, 999));
        DUE.is("fill(1, 10)", 999, hills.fill(1, 10));
        DUE.is("lighter(0, 2)", 999, hills.lighter(0, 2));
        DUE.refused("fill(2, 1)", Due.INDEX, hills, () -> hills.fill(2, 1));
        DUE.refused("fill(0, 0)", Due.ARGUMENT, hills, () -> hills.fill(0, 0));
        for (int far : FAR_OUT) {
            DUE.refused("fill(" + far + ", 0)", Due.INDEX, hills, () -> hills.fill(far, 0));
            DUE.refused("fill(0, " + far + ")", Due.ARGUMENT, hills, () -> hills.fill(0, far));
        }
    }
}
