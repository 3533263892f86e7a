/** Promises 1 to 6: a new object, corner, street, lamp, lid, setWind. */
final class TownTest {
    private static final Due DUE = new Due();
    private static final int[] FAR_OUT = {Integer.MIN_VALUE, -2, -1, 100, Integer.MAX_VALUE};

    public static void main(String[] args) {
        aNewObject();
        corner();
        street();
        lamp();
        lid();
        setWind();
        DUE.end();
    }

    private static LampHills withCorners(int corners) {
        LampHills hills = new LampHills();
        for (int i = 0; i < corners; i++) {
            hills.corner(i);
        }
        return hills;
    }

    private static LampHills withLamp() {
        LampHills hills = withCorners(2);
        hills.street(0, 1, 1);
        hills.lamp(0, 2);
        return hills;
    }

    private static void aNewObject() {
        LampHills hills = new LampHills();
        for (int what = 0; what < 10; what++) {
            DUE.is("new: count(" + what + ")", 0, hills.count(what));
        }
        long d = 941;
        for (int i = 0; i < 20; i++) {
            d *= 31;
        }
        DUE.is("new: digest()", d, hills.digest());
        DUE.is("two objects: digest()", new LampHills().digest(), hills.digest());
        hills.corner(1);
        DUE.is("another object has no corner", 0, new LampHills().count(2));
    }

    private static void corner() {
        LampHills hills = new LampHills();
        for (int height : new int[] {Integer.MIN_VALUE, -1, 31, Integer.MAX_VALUE}) {
            DUE.refused("corner(" + height + ")", Due.ARGUMENT, hills, () -> hills.corner(height));
        }
        DUE.is("corner(0)", 0, hills.corner(0));
        DUE.is("corner(30)", 1, hills.corner(30));
        for (int number = 2; number < 12; number++) {
            DUE.is("corner(" + number + ")", number, hills.corner(number));
            DUE.is("count(2)", number + 1, hills.count(2));
        }
        DUE.refused("13th corner(5)", Due.STATE, hills, () -> hills.corner(5));
        DUE.refused("13th corner(31)", Due.ARGUMENT, hills, () -> hills.corner(31));
        DUE.refused("13th corner(-1)", Due.ARGUMENT, hills, () -> hills.corner(-1));
        DUE.is("count(2)", 12, hills.count(2));
    }

    private static void street() {
        LampHills hills = new LampHills();
        DUE.refused("street without corners", Due.INDEX, hills, () -> hills.street(0, 0, 0));
        hills.corner(0);
        hills.corner(0);
        DUE.refused("street(0, 2, 1)", Due.INDEX, hills, () -> hills.street(0, 2, 1));
        DUE.refused("street(2, 0, 1)", Due.INDEX, hills, () -> hills.street(2, 0, 1));
        for (int far : FAR_OUT) {
            DUE.refused("street(0, " + far + ", 0)", Due.INDEX, hills, () -> hills.street(0, far, 0));
            DUE.refused("street(" + far + ", 1, 10)", Due.INDEX, hills, () -> hills.street(far, 1, 10));
            DUE.refused("street twice " + far, Due.INDEX, hills, () -> hills.street(far, far, 1));
            DUE.refused("street(0, 1, " + far + ")", Due.ARGUMENT, hills, () -> hills.street(0, 1, far));
        }
        DUE.refused("street(1, 1, 1)", Due.ARGUMENT, hills, () -> hills.street(1, 1, 1));
        DUE.refused("street(0, 1, 0)", Due.ARGUMENT, hills, () -> hills.street(0, 1, 0));
        DUE.refused("street(0, 1, 10)", Due.ARGUMENT, hills, () -> hills.street(0, 1, 10));
        DUE.is("street(0, 1, 9)", 0, hills.street(0, 1, 9));
        DUE.is("way(1, 0)", 9, hills.way(1, 0));
        for (int number = 1; number < 18; number++) {
            DUE.is("a street beside the others", number, hills.street(1, 0, 1));
            DUE.is("count(3)", number + 1, hills.count(3));
        }
        DUE.refused("19th street(0, 1, 1)", Due.STATE, hills, () -> hills.street(0, 1, 1));
        DUE.refused("19th street(0, 0, 1)", Due.ARGUMENT, hills, () -> hills.street(0, 0, 1));
        DUE.refused("19th street(0, 1, 10)", Due.ARGUMENT, hills, () -> hills.street(0, 1, 10));
        DUE.refused("19th street(0, 2, 10)", Due.INDEX, hills, () -> hills.street(0, 2, 10));
    }

    private static void lamp() {
        LampHills hills = withCorners(3);
        DUE.refused("lamp without streets", Due.INDEX, hills, () -> hills.lamp(0, 1));
        hills.street(0, 1, 1);
        hills.street(1, 2, 1);
        for (int far : FAR_OUT) {
            DUE.refused("lamp(" + far + ", 1)", Due.INDEX, hills, () -> hills.lamp(far, 1));
            DUE.refused("lamp(0, " + far + ")", Due.ARGUMENT, hills, () -> hills.lamp(0, far));
        }
        DUE.refused("lamp(2, 2)", Due.INDEX, hills, () -> hills.lamp(2, 2));
        DUE.refused("lamp(1, 1)", Due.ARGUMENT, hills, () -> hills.lamp(1, 1));
        DUE.refused("lamp(1, 10)", Due.ARGUMENT, hills, () -> hills.lamp(1, 10));
        DUE.is("lamp(1, 2)", 0, hills.lamp(1, 2));
        DUE.is("lamp(0, 9)", 1, hills.lamp(0, 9));
        int[] first = {1, 2, 0, 0, 0, 0, -1, 0, 0};
        int[] second = {0, 9, 0, 0, 0, 0, -1, 0, 0};
        for (int what = 0; what < 9; what++) {
            DUE.is("new lamp: told(0, " + what + ")", first[what], hills.told(0, what));
            DUE.is("new lamp: told(1, " + what + ")", second[what], hills.told(1, what));
        }
        for (int number = 2; number < 20; number++) {
            DUE.is("lamp(1, 5)", number, hills.lamp(1, 5));
            DUE.is("count(4)", number + 1, hills.count(4));
        }
        DUE.refused("21st lamp(1, 5)", Due.STATE, hills, () -> hills.lamp(1, 5));
        DUE.refused("21st lamp(1, 1)", Due.ARGUMENT, hills, () -> hills.lamp(1, 1));
        DUE.refused("21st lamp(2, 1)", Due.INDEX, hills, () -> hills.lamp(2, 1));
    }

    private static void lid() {
        LampHills hills = withLamp();
        hills.lamp(0, 3);
        DUE.is("lid(0, 9)", 0, hills.lid(0, 9));
        DUE.is("lid(0, 4)", 9, hills.lid(0, 4));
        DUE.is("told(0, 2)", 4, hills.told(0, 2));
        DUE.is("told(1, 2)", 0, hills.told(1, 2));
        DUE.is("lid(0, 0)", 4, hills.lid(0, 0));
        DUE.is("lid(1, 1)", 0, hills.lid(1, 1));
        DUE.refused("lid(0, -1)", Due.ARGUMENT, hills, () -> hills.lid(0, -1));
        DUE.refused("lid(0, 10)", Due.ARGUMENT, hills, () -> hills.lid(0, 10));
        DUE.refused("lid(2, 0)", Due.INDEX, hills, () -> hills.lid(2, 0));
        for (int far : FAR_OUT) {
            DUE.refused("lid(" + far + ", 10)", Due.INDEX, hills, () -> hills.lid(far, 10));
            DUE.refused("lid(1, " + far + ")", Due.ARGUMENT, hills, () -> hills.lid(1, far));
        }
    }

    private static void setWind() {
        LampHills hills = new LampHills();
        for (int hour = 0; hour < 10; hour++) {
            DUE.is("setWind(" + hour + ", 9)", 0, hills.setWind(hour, 9));
        }
        for (int hour = 0; hour < 10; hour++) {
            DUE.is("setWind(" + hour + ", " + hour + ")", 9, hills.setWind(hour, hour));
        }
        for (int hour = 0; hour < 10; hour++) {
            DUE.is("setWind(" + hour + ", 0)", hour, hills.setWind(hour, 0));
        }
        DUE.refused("setWind(10, 0)", Due.INDEX, hills, () -> hills.setWind(10, 0));
        DUE.refused("setWind(0, 10)", Due.ARGUMENT, hills, () -> hills.setWind(0, 10));
        for (int far : FAR_OUT) {
            DUE.refused("setWind(" + far + ", 10)", Due.INDEX, hills, () -> hills.setWind(far, 10));
            DUE.refused("setWind(9, " + far + ")", Due.ARGUMENT, hills, () -> hills.setWind(9, far));
        }
    }
}
