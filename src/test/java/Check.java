/** Counts the calls whose answer is not the one that is due, and tells them. */
final class Check {
    static final Class<IndexOutOfBoundsException> INDEX = IndexOutOfBoundsException.class;
    static final Class<IllegalArgumentException> ARGUMENT = IllegalArgumentException.class;
    static final Class<IllegalStateException> STATE = IllegalStateException.class;

    interface Call {
        Object run();
    }

    private final String name;
    private int done = 0;
    private int wrong = 0;

    Check(String name) {
        this.name = name;
    }

    void due(String call, long got, long want) {
        done++;
        if (got != want) {
            tell(call, Long.toString(got), Long.toString(want));
        }
    }

    void due(String call, double got, double want) {
        done++;
        if (got != want) {
            tell(call, Double.toString(got), Double.toString(want));
        }
    }

    void due(String call, boolean got, boolean want) {
        due(call, got ? 1 : 0, want ? 1 : 0);
    }

    /** The call throws just that class, none below it: the machine's own exceptions are below it. */
    void thrown(String call, Class<? extends RuntimeException> want, SurveyHouse house, Call action) {
        done++;
        long before = house == null ? 0 : house.digest();
        String got = outcome(action);
        if (!got.equals("throws " + want.getName())) {
            tell(call, got, "throws " + want.getName());
        }
        if (house != null && house.digest() != before) {
            tell(call, "and changed something", "nothing changed");
        }
    }

    /** What a call answers, as a text; "throws " and the class if it throws. */
    static String outcome(Call action) {
        try {
            return String.valueOf(action.run());
        } catch (RuntimeException e) {
            return "throws " + e.getClass().getName();
        }
    }

    void tell(String call, String got, String want) {
        wrong++;
        if (wrong <= 20) {
            System.out.println(name + ": " + call + " answered " + got + ", due is " + want);
        }
    }

    boolean isClean() {
        return wrong == 0;
    }

    void end() {
        System.out.println(name + ": " + done + " calls looked at, " + wrong + " wrong");
        if (wrong != 0 || done == 0) {
            System.exit(1);
        }
    }
}
