/** Counts the answers that are not as due, and tells of each. */
final class Due {
    interface Call {
        double answer();
    }

    static final Class<?> INDEX = IndexOutOfBoundsException.class;
    static final Class<?> ARGUMENT = IllegalArgumentException.class;
    static final Class<?> STATE = IllegalStateException.class;

    private int wrong;
    private int asked;

    void is(String call, long want, long got) {
        asked++;
        if (got != want) {
            tell(call + " answered " + got + ", due is " + want);
        }
    }

    void isDouble(String call, double want, double got) {
        asked++;
        if (Double.compare(got, want) != 0) {
            tell(call + " answered " + got + ", due is " + want);
        }
    }

    void same(String what, String want, String got) {
        asked++;
        if (!got.equals(want)) {
            tell(what + " is " + got + ", due is " + want);
        }
    }

    /** The call throws just this class, no class below it, and leaves the object as it was. */
    void refused(String call, Class<?> want, LampHills hills, Call made) {
        asked++;
        long before = hills.digest();
        Class<?> thrown = null;
        try {
            made.answer();
        } catch (RuntimeException e) {
            thrown = e.getClass();
        }
        if (thrown != want) {
            tell(call + " threw " + thrown + ", due is " + want);
        }
        if (hills.digest() != before) {
            tell(call + " changed something, though it is refused");
        }
    }

    void tell(String text) {
        wrong++;
        System.out.println(text);
    }

    void end() {
        System.out.println(wrong == 0 ? asked + " answers are as due" : wrong + " are not as due");
        if (wrong != 0) {
            System.exit(1);
        }
    }
}
