/** Towns with which several tests begin. */
final class Towns {
    private Towns() {
    }

    /** Corners at the height 0, and no street. */
    static LampHills corners(int corners) {
        LampHills hills = new LampHills();
        for (int corner = 0; corner < corners; corner++) {
            hills.corner(0);
        }
        return hills;
    }

    /** One street, 1 long, between two corners as high as told, and lamps in it, 2 high. */
    static LampHills street(int first, int second, int lamps) {
        LampHills hills = new LampHills();
        hills.corner(first);
        hills.corner(second);
        hills.street(0, 1, 1);
        for (int lamp = 0; lamp < lamps; lamp++) {
            hills.lamp(0, 2);
        }
        return hills;
    }

    /** Lamps in a flat street, and a lighter at the corner 0 who reaches them all, in their order. */
    static LampHills flat(int lamps, int oil) {
        LampHills hills = street(0, 0, lamps);
        hills.hire(0, 9, oil);
        for (int lamp = 0; lamp < lamps; lamp++) {
            hills.round(0, lamp);
        }
        return hills;
    }

    /** As many corners, streets, lamps, lighters and lamps of rounds as there can be, in 94 calls. */
    static LampHills full() {
        LampHills hills = new LampHills();
        for (int corner = 0; corner < 12; corner++) {
            hills.corner(corner * 7 % 31);
        }
        for (int street = 0; street < 18; street++) {
            hills.street(street % 12, (street + 1 + street / 12) % 12, 1 + street % 9);
        }
        for (int lamp = 0; lamp < 20; lamp++) {
            hills.lamp(lamp % 18, 2 + lamp % 8);
        }
        for (int lighter = 0; lighter < 4; lighter++) {
            hills.hire(lighter * 3, 9 - lighter, 999);
            for (int place = 0; place < 10; place++) {
                hills.round(lighter, (lighter * 5 + place) % 20);
            }
        }
        return hills;
    }

    /**
     * 20 lamps in flat streets side by side, and four lighters, each with five of the lamps in the
     * round, in the minute told; they are lit by lightAll in 15 minutes.
     */
    static LampHills twenty(int streets, int minute) {
        LampHills hills = corners(2);
        for (int street = 0; street < streets; street++) {
            hills.street(0, 1, 1);
        }
        for (int lamp = 0; lamp < 20; lamp++) {
            hills.lamp(lamp % streets, 2);
        }
        for (int lighter = 0; lighter < 4; lighter++) {
            hills.hire(0, 9, 999);
        }
        if (minute > 0) {
            hills.pass(minute);
        }
        for (int lamp = 0; lamp < 20; lamp++) {
            hills.round(lamp / 5, lamp);
        }
        return hills;
    }

    /** A can has oil for three lamps, so it is filled behind them. */
    static int lightAll(LampHills hills) {
        int lit = hills.pass(9);
        for (int lighter = 0; lighter < 4; lighter++) {
            hills.fill(lighter, 999);
        }
        return lit + hills.pass(6);
    }
}
