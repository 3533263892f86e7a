/**
 * Plays many runs of 512 calls on LampHills and on Model, and compares every answer: in every other
 * run digest() is each second call, so that the first change that is not as due is told.
 */
final class ModelTest {
    private static final Due DUE = new Due();
    private static final int RUNS = 400;
    private static final int CALLS = 512;
    private static final int BUILDING_CALLS = 90;
    private static final int[] ODD = {Integer.MIN_VALUE, -100, -2, -1, 0, 1, 9, 10, 12, 18, 20, 30, 31,
        599, 600, 601, 999, 1000, 1000000, Integer.MAX_VALUE};

    /** The calls, with how often each comes while the town is built, and then. */
    private enum Kind {
        CORNER(6, 1), STREET(7, 1), LAMP(7, 1), LID(4, 4), WIND(4, 3), HIRE(2, 1), ROUND(8, 5), FILL(1, 8),
        WAY(2, 3), TOLD(1, 4), LIGHTER(1, 3), BURNING(1, 2), COUNT(1, 3), PASS(1, 12), DAWN(1, 5),
        COMES(1, 7), DARKEST(1, 3), NEEDS(1, 3), FORESEE(1, 6), MEAN(1, 2);

        final int early;
        final int late;

        Kind(int early, int late) {
            this.early = early;
            this.late = late;
        }
    }

    private static final Kind[] KINDS = Kind.values();

    /** What a call answered; thrown is null if it threw nothing. */
    private static final class Answer {
        double number;
        Class<?> thrown;
    }

    private long seed;

    private ModelTest(long seed) {
        this.seed = seed;
    }

    public static void main(String[] args) {
        fullTown();
        for (int run = 0; run < RUNS; run++) {
            new ModelTest(run).play(run);
        }
        DUE.end();
    }

    /** As many corners, streets, lamps, lighters and lamps of rounds as there can be, for two nights. */
    private static void fullTown() {
        LampHills hills = new LampHills();
        Model model = new Model();
        for (int corner = 0; corner < 12; corner++) {
            both(hills, model, Kind.CORNER, corner * 7 % 31, 0, 0);
        }
        for (int street = 0; street < 18; street++) {
            both(hills, model, Kind.STREET, street % 12, (street + 1 + street / 12) % 12, 1 + street % 9);
        }
        for (int lamp = 0; lamp < 20; lamp++) {
            both(hills, model, Kind.LAMP, 17 - lamp % 18, 2 + lamp % 8, 0);
            both(hills, model, Kind.LID, lamp, lamp % 10, 0);
        }
        for (int lighter = 0; lighter < 4; lighter++) {
            both(hills, model, Kind.HIRE, lighter * 3, 9 - lighter, 999);
            for (int place = 0; place < 10; place++) {
                both(hills, model, Kind.ROUND, lighter, (lighter * 5 + place * 3) % 20, 0);
            }
        }
        for (int hour = 0; hour < 10; hour++) {
            both(hills, model, Kind.WIND, hour, hour, 0);
        }
        for (int part = 0; part < 40; part++) {
            both(hills, model, Kind.COMES, 19, 0, 0);
            both(hills, model, Kind.DARKEST, 0, 0, 0);
            both(hills, model, Kind.NEEDS, 19, 0, 0);
            both(hills, model, Kind.FORESEE, 600, part % 3, 0);
            both(hills, model, Kind.MEAN, 0, 0, 0);
            both(hills, model, Kind.PASS, 31, 0, 0);
            both(hills, model, Kind.FILL, part % 4, 999, 0);
            both(hills, model, Kind.DAWN, 0, 0, 0);
            bothDigests(hills, model);
        }
    }

    private static boolean both(LampHills hills, Model model, Kind kind, int... with) {
        Answer got = answer(() -> onHills(hills, kind, with));
        Answer want = answer(() -> onModel(model, kind, with));
        String text = kind + " with " + with[0] + ", " + with[1] + ", " + with[2];
        if (got.thrown != want.thrown) {
            DUE.tell(text + " threw " + got.thrown + ", due is " + want.thrown);
        }
        DUE.isDouble(text, want.number, got.number);
        return got.thrown == want.thrown && got.number == want.number;
    }

    private static boolean bothDigests(LampHills hills, Model model) {
        long want = model.digest();
        long got = hills.digest();
        DUE.is("digest()", want, got);
        return got == want;
    }

    private int below(int bound) {
        seed = seed * 6364136223846793005L + 1442695040888963407L;
        return (int) ((seed >>> 33) % bound);
    }

    /** Mostly a number from least to most, now and then one at an edge or far out. */
    private int number(int least, int most) {
        int kind = below(60);
        if (kind == 0) {
            return ODD[below(ODD.length)];
        }
        if (kind == 1) {
            return below(2) == 0 ? least - 1 : most + 1;
        }
        return most < least ? least : least + below(most - least + 1);
    }

    private Kind kind(boolean early) {
        int sum = 0;
        for (Kind kind : KINDS) {
            sum += early ? kind.early : kind.late;
        }
        int left = below(sum);
        for (Kind kind : KINDS) {
            left -= early ? kind.early : kind.late;
            if (left < 0) {
                return kind;
            }
        }
        return Kind.MEAN;
    }

    private void play(int run) {
        LampHills hills = new LampHills();
        Model model = new Model();
        // Some runs climb little and are short of wind, so that lamps burn long; others blow hard.
        int highest = run % 3 == 0 ? 3 : 30;
        int strongest = run % 4 == 0 ? 2 : run % 4 == 1 ? 9 : 6;
        boolean often = run % 2 == 0;
        boolean good = true;
        int building = BUILDING_CALLS;
        for (int call = 1; good && call <= CALLS; call++) {
            if (often && call % 2 == 0 || call == CALLS) {
                good = bothDigests(hills, model);
            } else {
                Kind kind = kind(building-- > 0);
                good = both(hills, model, kind, arguments(kind, model, highest, strongest));
            }
            if (!good) {
                System.out.println("in the run " + run + ", call " + call);
            }
        }
    }

    private static Answer answer(Due.Call call) {
        Answer answer = new Answer();
        try {
            answer.number = call.answer();
        } catch (RuntimeException e) {
            answer.thrown = e.getClass();
        }
        return answer;
    }

    private int[] arguments(Kind kind, Model model, int highest, int strongest) {
        int corners = model.count(2) - 1;
        int streets = model.count(3) - 1;
        int lamps = model.count(4) - 1;
        int lighters = model.count(7) - 1;
        return switch (kind) {
            case CORNER -> new int[] {number(0, highest), 0, 0};
            case STREET -> new int[] {number(0, corners), number(0, corners), number(1, 9)};
            case LAMP -> new int[] {number(0, streets), number(2, 9), 0};
            case LID -> new int[] {number(0, lamps), number(0, 9), 0};
            case WIND -> new int[] {number(0, 9), number(0, strongest), 0};
            case HIRE -> new int[] {number(0, corners), number(3, 9), number(0, 999)};
            case ROUND -> new int[] {number(0, lighters), number(0, lamps), 0};
            case FILL -> new int[] {number(0, lighters), number(1, 999), 0};
            case WAY -> new int[] {number(0, corners), number(0, corners), 0};
            case TOLD -> new int[] {number(0, lamps), number(0, 8), 0};
            case LIGHTER -> new int[] {number(0, lighters), number(0, 6), 0};
            case BURNING -> new int[] {number(0, streets), 0, 0};
            case COUNT -> new int[] {number(0, 9), 0, 0};
            case PASS -> new int[] {number(1, below(8) == 0 ? 600 : 25), 0, 0};
            case COMES, NEEDS -> new int[] {number(0, lamps), 0, 0};
            case FORESEE -> new int[] {number(1, below(3) == 0 ? 600 : 60), number(0, 2), 0};
            default -> new int[3];
        };
    }

    private static double onHills(LampHills hills, Kind kind, int[] with) {
        return switch (kind) {
            case CORNER -> hills.corner(with[0]);
            case STREET -> hills.street(with[0], with[1], with[2]);
            case LAMP -> hills.lamp(with[0], with[1]);
            case LID -> hills.lid(with[0], with[1]);
            case WIND -> hills.setWind(with[0], with[1]);
            case HIRE -> hills.hire(with[0], with[1], with[2]);
            case ROUND -> hills.round(with[0], with[1]);
            case FILL -> hills.fill(with[0], with[1]);
            case WAY -> hills.way(with[0], with[1]);
            case TOLD -> hills.told(with[0], with[1]);
            case LIGHTER -> hills.lighter(with[0], with[1]);
            case BURNING -> hills.burning(with[0]);
            case COUNT -> hills.count(with[0]);
            case PASS -> hills.pass(with[0]);
            case DAWN -> hills.dawn();
            case COMES -> hills.comes(with[0]);
            case DARKEST -> hills.darkest();
            case NEEDS -> hills.needs(with[0]);
            case FORESEE -> hills.foresee(with[0], with[1]);
            case MEAN -> hills.mean();
        };
    }

    private static double onModel(Model model, Kind kind, int[] with) {
        return switch (kind) {
            case CORNER -> model.corner(with[0]);
            case STREET -> model.street(with[0], with[1], with[2]);
            case LAMP -> model.lamp(with[0], with[1]);
            case LID -> model.lid(with[0], with[1]);
            case WIND -> model.setWind(with[0], with[1]);
            case HIRE -> model.hire(with[0], with[1], with[2]);
            case ROUND -> model.round(with[0], with[1]);
            case FILL -> model.fill(with[0], with[1]);
            case WAY -> model.way(with[0], with[1]);
            case TOLD -> model.told(with[0], with[1]);
            case LIGHTER -> model.lighter(with[0], with[1]);
            case BURNING -> model.burning(with[0]);
            case COUNT -> model.count(with[0]);
            case PASS -> model.pass(with[0]);
            case DAWN -> model.dawn();
            case COMES -> model.comes(with[0]);
            case DARKEST -> model.darkest();
            case NEEDS -> model.needs(with[0]);
            case FORESEE -> model.foresee(with[0], with[1]);
            case MEAN -> model.mean();
        };
    }
}
