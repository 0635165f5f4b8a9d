import java.util.function.LongSupplier;

/** Compares answers with those that are due, and ends a test with exit code 1 if one differed. */
final class Due {
    private static final String NOTHING = "nothing";

    private int checks = 0;
    private int wrong = 0;

    void same(String what, long got, long want) {
        checks++;
        if (got != want) {
            report(what + " answered " + got + ", due is " + want);
        }
    }

    void same(String what, boolean got, boolean want) {
        same(what, got ? 1 : 0, want ? 1 : 0);
    }

    void same(String what, String got, String want) {
        checks++;
        if (!got.equals(want)) {
            report(what + " answered " + got + ", due is " + want);
        }
    }

    void sameDouble(String what, double got, double want) {
        checks++;
        if (Double.compare(got, want) != 0) {
            report(what + " answered " + got + ", due is " + want);
        }
    }

    /**
     * What a call throws: the very class, as the machine's own exceptions are of classes below the
     * due ones, and whether it was thrown in the program's own code and not in the library's.
     */
    static String thrownBy(RuntimeException e) {
        StackTraceElement[] trace = e.getStackTrace();
        String place = trace.length == 0 ? "" : trace[0].getClassName();
        boolean isOwn = place.equals("TideTable") || place.equals("PlainTideTable");
        return e.getClass().getName() + (isOwn ? "" : " out of " + place);
    }

    /** The answer of a call, or what it threw, as one text. */
    static String outcome(LongSupplier call) {
        try {
            return Long.toString(call.getAsLong());
        } catch (RuntimeException e) {
            return thrownBy(e);
        }
    }

    void throwsJust(String what, Class<? extends RuntimeException> want, LongSupplier call) {
        checks++;
        String thrown = NOTHING;
        try {
            call.getAsLong();
        } catch (RuntimeException e) {
            thrown = thrownBy(e);
        }
        if (!thrown.equals(want.getName())) {
            report(what + " threw " + thrown + ", due is " + want.getName());
        }
    }

    void noIndex(String what, LongSupplier call) {
        throwsJust(what, IndexOutOfBoundsException.class, call);
    }

    void noArgument(String what, LongSupplier call) {
        throwsJust(what, IllegalArgumentException.class, call);
    }

    void noState(String what, LongSupplier call) {
        throwsJust(what, IllegalStateException.class, call);
    }

    int wrong() {
        return wrong;
    }

    void end(String test) {
        System.out.println(test + ": " + checks + " checks, " + wrong + " wrong");
        if (wrong > 0 || checks == 0) {
            System.exit(1);
        }
    }

    private void report(String text) {
        wrong++;
        System.out.println(text);
    }
}
