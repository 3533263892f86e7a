/**
 * Lamplighters with ladders on hills, as ../shared/DOC.md promises it.
 *
 * Every number that is kept as an index was tested before it was kept, so each index, divisor and
 * reference in here is known to be good where it is used. Calls make no objects but exceptions.
 */
public final class LampHills {
    private static final int MAX_CORNERS = 12;
    private static final int MAX_HEIGHT = 30;
    private static final int MAX_STREETS = 18;
    private static final int MAX_LENGTH = 9;
    private static final int MAX_LAMPS = 20;
    private static final int MIN_LAMP_HEIGHT = 2;
    private static final int MAX_LAMP_HEIGHT = 9;
    private static final int MAX_LAMP_OIL = 300;
    private static final int MAX_LID = 9;
    private static final int MAX_SOOT = 9;
    private static final int MAX_LIGHTERS = 4;
    private static final int MAX_LADDER = 9;
    private static final int MAX_CAN = 999;
    private static final int MAX_ROUND = 10;
    private static final int HOURS = 10;
    private static final int HOUR_MINUTES = 60;
    private static final int NIGHT_MINUTES = HOURS * HOUR_MINUTES;
    private static final int MAX_WIND = 9;

    private static final int ARM = 2;
    private static final int WORK_MINUTES = 3;
    private static final int SOOTY = 5;
    private static final int SOOT_EVERY = 30;
    private static final int WIND_EVERY = 10;
    private static final int SHELTER = 4;

    private static final int COUNT_KINDS = 10;
    private static final int TOLD_KINDS = 9;
    private static final int LIGHTER_KINDS = 7;
    private static final int FORESEE_KINDS = 3;

    private static final int NONE = -1;
    // Far above the longest way there can be, and far enough below the end of int to be added thrice.
    private static final int NO_WAY = 1000000;

    private final Town town;
    private final Night night;
    // Forecasts play on this copy, which is made once, so that they change nothing and make nothing.
    private final Night forecast;
    private final int[] darkMinutes;

    public LampHills() {
        town = new Town();
        night = new Night();
        forecast = new Night();
        darkMinutes = new int[MAX_STREETS];
    }

    // ---- the town

    public int corner(int height) throws IllegalArgumentException, IllegalStateException {
        requireRange(height, 0, MAX_HEIGHT);
        requireRoom(town.corners, MAX_CORNERS);
        return town.addCorner(height);
    }

    public int street(int a, int b, int length)
            throws IndexOutOfBoundsException, IllegalArgumentException, IllegalStateException {
        requireIndex(a, town.corners);
        requireIndex(b, town.corners);
        if (a == b) {
            throw new IllegalArgumentException("a street joins two different corners");
        }
        requireRange(length, 1, MAX_LENGTH);
        requireRoom(town.streets, MAX_STREETS);
        return town.addStreet(a, b, length);
    }

    public int lamp(int street, int height)
            throws IndexOutOfBoundsException, IllegalArgumentException, IllegalStateException {
        requireIndex(street, town.streets);
        requireRange(height, MIN_LAMP_HEIGHT, MAX_LAMP_HEIGHT);
        requireRoom(town.lamps, MAX_LAMPS);
        return town.addLamp(street, height);
    }

    public int lid(int lamp, int lid) throws IndexOutOfBoundsException, IllegalArgumentException {
        requireIndex(lamp, town.lamps);
        requireRange(lid, 0, MAX_LID);
        int before = town.lid[lamp];
        town.lid[lamp] = lid;
        return before;
    }

    public int setWind(int hour, int wind) throws IndexOutOfBoundsException, IllegalArgumentException {
        requireIndex(hour, HOURS);
        requireRange(wind, 0, MAX_WIND);
        int before = town.wind[hour];
        town.wind[hour] = wind;
        return before;
    }

    // ---- lighters

    public int hire(int home, int ladder, int oil)
            throws IndexOutOfBoundsException, IllegalArgumentException, IllegalStateException {
        requireIndex(home, town.corners);
        requireRange(ladder, 1, MAX_LADDER);
        requireRange(oil, 0, MAX_CAN);
        requireRoom(town.lighters, MAX_LIGHTERS);
        int lighter = town.addLighter(home, ladder);
        night.can[lighter] = oil;
        night.sendHome(town, lighter);
        return lighter;
    }

    public int round(int lighter, int lamp) throws IndexOutOfBoundsException, IllegalStateException {
        requireIndex(lighter, town.lighters);
        requireIndex(lamp, town.lamps);
        if (town.isInRound(lighter, lamp)) {
            throw new IllegalStateException("the lamp is in the round already");
        }
        requireRoom(town.roundSize[lighter], MAX_ROUND);
        return town.addToRound(lighter, lamp);
    }

    public int fill(int lighter, int oil) throws IndexOutOfBoundsException, IllegalArgumentException {
        requireIndex(lighter, town.lighters);
        requireRange(oil, 1, MAX_CAN);
        night.can[lighter] = Math.min(MAX_CAN, night.can[lighter] + oil);
        return night.can[lighter];
    }

    // ---- what is there

    public int way(int a, int b) throws IndexOutOfBoundsException {
        requireIndex(a, town.corners);
        requireIndex(b, town.corners);
        int minutes = town.ways[a][b];
        return minutes < NO_WAY ? minutes : NONE;
    }

    public int told(int lamp, int what) throws IndexOutOfBoundsException {
        requireIndex(lamp, town.lamps);
        requireIndex(what, TOLD_KINDS);
        switch (what) {
            case 0: return town.lampStreet[lamp];
            case 1: return town.lampHeight[lamp];
            case 2: return town.lid[lamp];
            case 3: return night.oil[lamp];
            case 4: return night.soot[lamp];
            case 5: return night.burns[lamp] ? 1 : 0;
            case 6: return night.whoGoesTo(town, lamp);
            case 7: return night.timesLit[lamp];
            default: return night.timesBlownOut[lamp];
        }
    }

    public int lighter(int lighter, int what) throws IndexOutOfBoundsException {
        requireIndex(lighter, town.lighters);
        requireIndex(what, LIGHTER_KINDS);
        switch (what) {
            case 0: return night.at[lighter];
            case 1: return town.ladder[lighter];
            case 2: return night.can[lighter];
            case 3: return town.roundSize[lighter];
            case 4: return night.goesTo[lighter];
            case 5: return night.minutesLeft[lighter];
            default: return night.litBy[lighter];
        }
    }

    public int burning(int street) throws IndexOutOfBoundsException {
        requireIndex(street, town.streets);
        return night.burningIn[street];
    }

    public int count(int what) throws IndexOutOfBoundsException {
        requireIndex(what, COUNT_KINDS);
        switch (what) {
            case 0: return night.minute;
            case 1: return night.number;
            case 2: return town.corners;
            case 3: return town.streets;
            case 4: return town.lamps;
            case 5: return night.burningLamps(town);
            case 6: return night.darkStreets(town);
            case 7: return town.lighters;
            case 8: return night.oilOfLamps(town);
            default: return night.oilUsed;
        }
    }

    // ---- minutes

    public int pass(int minutes) throws IllegalArgumentException {
        requireRange(minutes, 1, NIGHT_MINUTES);
        return night.goBy(town, minutes);
    }

    public int dawn() throws IllegalStateException {
        if (night.minute < NIGHT_MINUTES) {
            throw new IllegalStateException("the night is not over");
        }
        int burned = night.burningLamps(town);
        night.beginNext(town);
        return burned;
    }

    // ---- what would be

    public int comes(int lamp) throws IndexOutOfBoundsException {
        requireIndex(lamp, town.lamps);
        forecast.copy(night);
        int rest = NIGHT_MINUTES - night.minute;
        for (int minutes = 1; minutes <= rest; minutes++) {
            forecast.goBy(town, 1);
            // Who sets out has oil for the lamp, so to be done with a lamp is to have lit it.
            if (forecast.timesLit[lamp] != night.timesLit[lamp]) {
                return minutes;
            }
        }
        return NONE;
    }

    public int darkest() {
        clearDarkMinutes();
        forecast.copy(night);
        int rest = NIGHT_MINUTES - night.minute;
        for (int minutes = 1; minutes <= rest; minutes++) {
            forecast.goBy(town, 1);
            addDarkMinute();
        }
        return streetOfMostDarkMinutes();
    }

    public int needs(int lamp) throws IndexOutOfBoundsException {
        requireIndex(lamp, town.lamps);
        int strongest = 0;
        for (int hour = 0; hour < HOURS; hour++) {
            strongest = Math.max(strongest, town.wind[hour]);
        }
        int least = Math.max(0, town.windAtLamp(lamp, strongest) - SHELTER);
        return least <= MAX_LID ? least : NONE;
    }

    public int foresee(int minutes, int what) throws IllegalArgumentException, IndexOutOfBoundsException {
        requireRange(minutes, 1, NIGHT_MINUTES);
        requireIndex(what, FORESEE_KINDS);
        forecast.copy(night);
        forecast.goBy(town, minutes);
        switch (what) {
            case 0: return forecast.burningLamps(town);
            case 1: return forecast.darkStreets(town);
            default: return forecast.oilUsed - night.oilUsed;
        }
    }

    public double mean() {
        if (town.lamps == 0) {
            return 0;
        }
        return (double) night.oilOfLamps(town) / town.lamps;
    }

    public long digest() {
        long d = 941;
        for (int what = 0; what < COUNT_KINDS; what++) {
            d = d * 31 + count(what);
        }
        d = digestStreets(d);
        d = digestLamps(d);
        d = digestLighters(d);
        for (int hour = 0; hour < HOURS; hour++) {
            d = d * 31 + town.wind[hour];
        }
        return d;
    }

    // ---- what the calls share

    private static void requireIndex(int index, int size) {
        if (index < 0 || index >= size) {
            throw new IndexOutOfBoundsException("there is none of this number");
        }
    }

    private static void requireRange(int value, int least, int greatest) {
        if (value < least || value > greatest) {
            throw new IllegalArgumentException("the value is out of its range");
        }
    }

    private static void requireRoom(int size, int limit) {
        if (size >= limit) {
            throw new IllegalStateException("there is no room for one more");
        }
    }

    private void clearDarkMinutes() {
        for (int street = 0; street < MAX_STREETS; street++) {
            darkMinutes[street] = 0;
        }
    }

    private void addDarkMinute() {
        for (int street = 0; street < town.streets; street++) {
            if (forecast.isDark(street)) {
                darkMinutes[street]++;
            }
        }
    }

    private int streetOfMostDarkMinutes() {
        int darkest = NONE;
        int most = 0;
        for (int street = 0; street < town.streets; street++) {
            if (darkMinutes[street] > most) {
                most = darkMinutes[street];
                darkest = street;
            }
        }
        return darkest;
    }

    private long digestStreets(long before) {
        long d = before;
        for (int corner = 0; corner < town.corners; corner++) {
            d = d * 31 + town.height[corner];
        }
        for (int street = 0; street < town.streets; street++) {
            d = d * 31 + town.firstEnd[street];
            d = d * 31 + town.secondEnd[street];
            d = d * 31 + town.length[street];
            d = d * 31 + burning(street);
        }
        return d;
    }

    private long digestLamps(long before) {
        long d = before;
        for (int lamp = 0; lamp < town.lamps; lamp++) {
            for (int what = 0; what < TOLD_KINDS; what++) {
                d = d * 31 + told(lamp, what);
            }
        }
        return d;
    }

    private long digestLighters(long before) {
        long d = before;
        for (int lighter = 0; lighter < town.lighters; lighter++) {
            for (int what = 0; what < LIGHTER_KINDS; what++) {
                d = d * 31 + lighter(lighter, what);
            }
            for (int place = 0; place < town.roundSize[lighter]; place++) {
                d = d * 31 + town.rounds[lighter][place];
            }
        }
        return d;
    }

    /** What no minute changes: corners, streets, ways, where lamps stand, winds, lighters' rounds. */
    private static final class Town {
        int corners;
        final int[] height = new int[MAX_CORNERS];
        final int[][] ways = new int[MAX_CORNERS][MAX_CORNERS];
        int streets;
        final int[] firstEnd = new int[MAX_STREETS];
        final int[] secondEnd = new int[MAX_STREETS];
        final int[] length = new int[MAX_STREETS];
        int lamps;
        final int[] lampStreet = new int[MAX_LAMPS];
        final int[] lampHeight = new int[MAX_LAMPS];
        final int[] lid = new int[MAX_LAMPS];
        final int[] wind = new int[HOURS];
        int lighters;
        final int[] home = new int[MAX_LIGHTERS];
        final int[] ladder = new int[MAX_LIGHTERS];
        final int[] roundSize = new int[MAX_LIGHTERS];
        final int[][] rounds = new int[MAX_LIGHTERS][MAX_ROUND];

        int addCorner(int newHeight) {
            int corner = corners;
            height[corner] = newHeight;
            for (int other = 0; other < corner; other++) {
                ways[corner][other] = NO_WAY;
                ways[other][corner] = NO_WAY;
            }
            ways[corner][corner] = 0;
            corners++;
            return corner;
        }

        int addStreet(int a, int b, int newLength) {
            int street = streets;
            firstEnd[street] = a;
            secondEnd[street] = b;
            length[street] = newLength;
            streets++;
            shortenWays(a, b, minutesAlong(a, b, newLength));
            shortenWays(b, a, minutesAlong(b, a, newLength));
            return street;
        }

        int addLamp(int street, int newHeight) {
            int lamp = lamps;
            lampStreet[lamp] = street;
            lampHeight[lamp] = newHeight;
            lamps++;
            return lamp;
        }

        int addLighter(int newHome, int newLadder) {
            int lighter = lighters;
            home[lighter] = newHome;
            ladder[lighter] = newLadder;
            lighters++;
            return lighter;
        }

        int addToRound(int lighter, int lamp) {
            rounds[lighter][roundSize[lighter]] = lamp;
            roundSize[lighter]++;
            return roundSize[lighter];
        }

        boolean isInRound(int lighter, int lamp) {
            for (int place = 0; place < roundSize[lighter]; place++) {
                if (rounds[lighter][place] == lamp) {
                    return true;
                }
            }
            return false;
        }

        private int minutesAlong(int from, int to, int streetLength) {
            return streetLength + Math.max(0, height[to] - height[from]) / 2;
        }

        // A least way goes along the new street at most once, so the ways that were the least before
        // up to it and behind it are all that is needed.
        private void shortenWays(int begin, int end, int minutes) {
            for (int from = 0; from < corners; from++) {
                for (int to = 0; to < corners; to++) {
                    int along = ways[from][begin] + minutes + ways[end][to];
                    ways[from][to] = Math.min(ways[from][to], along);
                }
            }
        }

        int nearerEnd(int from, int lamp) {
            int street = lampStreet[lamp];
            int first = firstEnd[street];
            int second = secondEnd[street];
            return ways[from][first] <= ways[from][second] ? first : second;
        }

        boolean canReach(int lighter, int from, int lamp) {
            return lampHeight[lamp] <= ladder[lighter] + ARM
                    && ways[from][nearerEnd(from, lamp)] < NO_WAY;
        }

        int windAtLamp(int lamp, int windOfHour) {
            int street = lampStreet[lamp];
            return windOfHour + Math.max(height[firstEnd[street]], height[secondEnd[street]]) / 10;
        }
    }

    /** What minutes change: the time, the lamps' oil, soot and light, the lighters' ways and cans. */
    private static final class Night {
        int minute;
        int number;
        int oilUsed;
        final int[] burningIn = new int[MAX_STREETS];
        final int[] oil = new int[MAX_LAMPS];
        final int[] soot = new int[MAX_LAMPS];
        final boolean[] burns = new boolean[MAX_LAMPS];
        final int[] timesLit = new int[MAX_LAMPS];
        final int[] timesBlownOut = new int[MAX_LAMPS];
        final int[] at = new int[MAX_LIGHTERS];
        final int[] can = new int[MAX_LIGHTERS];
        final int[] goesTo = new int[MAX_LIGHTERS];
        // The corner is kept from the setting out on: a street built later turns nobody round.
        final int[] goal = new int[MAX_LIGHTERS];
        final int[] minutesLeft = new int[MAX_LIGHTERS];
        final int[] latestPlace = new int[MAX_LIGHTERS];
        final int[] litBy = new int[MAX_LIGHTERS];

        void copy(Night other) {
            minute = other.minute;
            number = other.number;
            oilUsed = other.oilUsed;
            System.arraycopy(other.burningIn, 0, burningIn, 0, MAX_STREETS);
            for (int lamp = 0; lamp < MAX_LAMPS; lamp++) {
                oil[lamp] = other.oil[lamp];
                soot[lamp] = other.soot[lamp];
                burns[lamp] = other.burns[lamp];
                timesLit[lamp] = other.timesLit[lamp];
                timesBlownOut[lamp] = other.timesBlownOut[lamp];
            }
            for (int lighter = 0; lighter < MAX_LIGHTERS; lighter++) {
                at[lighter] = other.at[lighter];
                can[lighter] = other.can[lighter];
                goesTo[lighter] = other.goesTo[lighter];
                goal[lighter] = other.goal[lighter];
                minutesLeft[lighter] = other.minutesLeft[lighter];
                latestPlace[lighter] = other.latestPlace[lighter];
                litBy[lighter] = other.litBy[lighter];
            }
        }

        /** Lets minutes go by, as far as the night goes; tells how often lamps are lit in them. */
        int goBy(Town town, int minutes) {
            int lit = 0;
            for (int gone = 0; gone < minutes && minute < NIGHT_MINUTES; gone++) {
                lit += moveLighters(town);
                burnLamps(town);
                if (minute % WIND_EVERY == 0) {
                    blow(town, town.wind[minute / HOUR_MINUTES]);
                }
                minute++;
            }
            return lit;
        }

        void beginNext(Town town) {
            minute = 0;
            number++;
            for (int lamp = 0; lamp < town.lamps; lamp++) {
                if (burns[lamp]) {
                    putOut(town, lamp);
                }
            }
            for (int lighter = 0; lighter < town.lighters; lighter++) {
                sendHome(town, lighter);
            }
        }

        void sendHome(Town town, int lighter) {
            at[lighter] = town.home[lighter];
            waitFromNow(lighter);
            latestPlace[lighter] = NONE;
        }

        int whoGoesTo(Town town, int lamp) {
            for (int lighter = 0; lighter < town.lighters; lighter++) {
                if (goesTo[lighter] == lamp) {
                    return lighter;
                }
            }
            return NONE;
        }

        boolean isDark(int street) {
            return burningIn[street] == 0;
        }

        int burningLamps(Town town) {
            int sum = 0;
            for (int street = 0; street < town.streets; street++) {
                sum += burningIn[street];
            }
            return sum;
        }

        int darkStreets(Town town) {
            int sum = 0;
            for (int street = 0; street < town.streets; street++) {
                if (isDark(street)) {
                    sum++;
                }
            }
            return sum;
        }

        int oilOfLamps(Town town) {
            int sum = 0;
            for (int lamp = 0; lamp < town.lamps; lamp++) {
                sum += oil[lamp];
            }
            return sum;
        }

        private int moveLighters(Town town) {
            int lit = 0;
            for (int lighter = 0; lighter < town.lighters; lighter++) {
                if (goesTo[lighter] == NONE) {
                    lookForLamp(town, lighter);
                }
                if (goesTo[lighter] != NONE) {
                    minutesLeft[lighter]--;
                    if (minutesLeft[lighter] == 0 && tendLamp(town, lighter)) {
                        lit++;
                    }
                }
            }
            return lit;
        }

        // Where the first lamp lacks oil the lighter waits, and looks at none behind it: the document
        // asks for oil when the lamp is found, not while it is looked for.
        private void lookForLamp(Town town, int lighter) {
            int place = placeOfNextLamp(town, lighter);
            if (place == NONE) {
                return;
            }
            int lamp = town.rounds[lighter][place];
            if (can[lighter] > 0 || oil[lamp] > 0) {
                goesTo[lighter] = lamp;
                latestPlace[lighter] = place;
                goal[lighter] = town.nearerEnd(at[lighter], lamp);
                minutesLeft[lighter] = town.ways[at[lighter]][goal[lighter]] + WORK_MINUTES;
            }
        }

        private int placeOfNextLamp(Town town, int lighter) {
            int size = town.roundSize[lighter];
            int place = latestPlace[lighter];
            for (int looked = 0; looked < size; looked++) {
                place = place + 1 < size ? place + 1 : 0;
                int lamp = town.rounds[lighter][place];
                if (!burns[lamp] && whoGoesTo(town, lamp) == NONE
                        && town.canReach(lighter, at[lighter], lamp)) {
                    return place;
                }
            }
            return NONE;
        }

        /** The lighter is done with the lamp; tells whether it burns. */
        private boolean tendLamp(Town town, int lighter) {
            int lamp = goesTo[lighter];
            at[lighter] = goal[lighter];
            waitFromNow(lighter);
            int poured = Math.min(can[lighter], MAX_LAMP_OIL - oil[lamp]);
            can[lighter] -= poured;
            oil[lamp] += poured;
            soot[lamp] = 0;
            if (oil[lamp] == 0) {
                return false;
            }
            burns[lamp] = true;
            burningIn[town.lampStreet[lamp]]++;
            timesLit[lamp]++;
            litBy[lighter]++;
            return true;
        }

        private void waitFromNow(int lighter) {
            goesTo[lighter] = NONE;
            minutesLeft[lighter] = 0;
        }

        private void burnLamps(Town town) {
            for (int lamp = 0; lamp < town.lamps; lamp++) {
                if (burns[lamp]) {
                    useOil(town, lamp);
                }
                if (burns[lamp] && minute % SOOT_EVERY == 0) {
                    soot[lamp] = Math.min(MAX_SOOT, soot[lamp] + 1);
                }
            }
        }

        private void useOil(Town town, int lamp) {
            int use = Math.min(oil[lamp], soot[lamp] >= SOOTY ? 2 : 1);
            oil[lamp] -= use;
            oilUsed += use;
            if (oil[lamp] == 0) {
                putOut(town, lamp);
            }
        }

        private void blow(Town town, int windOfHour) {
            for (int lamp = 0; lamp < town.lamps; lamp++) {
                if (burns[lamp] && town.windAtLamp(lamp, windOfHour) > town.lid[lamp] + SHELTER) {
                    putOut(town, lamp);
                    timesBlownOut[lamp]++;
                }
            }
        }

        private void putOut(Town town, int lamp) {
            burns[lamp] = false;
            burningIn[town.lampStreet[lamp]]--;
        }
    }
}
