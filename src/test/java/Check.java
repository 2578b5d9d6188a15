/** Counts the answers that are not as due, and says which they are. */
final class Check {
    interface Call {
        long answer();
    }

    interface Act {
        void act();
    }

    static final Class<? extends RuntimeException> INDEX = IndexOutOfBoundsException.class;
    static final Class<? extends RuntimeException> ARGUMENT = IllegalArgumentException.class;
    static final Class<? extends RuntimeException> STATE = IllegalStateException.class;

    private int checked;
    private int wrong;

    void due(String what, long got, long want) {
        checked++;
        if (got != want) {
            fail(what + " answered " + got + ", due is " + want);
        }
    }

    void due(String what, boolean got, boolean want) {
        due(what, got ? 1 : 0, want ? 1 : 0);
    }

    void due(String what, String got, String want) {
        checked++;
        if (!got.equals(want)) {
            fail(what + " answered " + got + ", due is " + want);
        }
    }

    /** The class is compared as it is: what the machine throws is of a class below the one that is due. */
    void throwing(String what, Class<? extends RuntimeException> want, Act act) {
        checked++;
        try {
            act.act();
            fail(what + " threw nothing, due is " + want.getName());
        } catch (RuntimeException e) {
            if (e.getClass() != want) {
                fail(what + " threw " + e + ", due is " + want.getName());
            }
        }
    }

    void fail(String what) {
        wrong++;
        if (wrong <= 40) {
            System.out.println(what);
        }
    }

    boolean hasFailed() {
        return wrong > 0;
    }

    void end() {
        System.out.println(checked + " answers looked at, " + wrong + " not as due");
        if (wrong > 0) {
            System.exit(1);
        }
    }
}
