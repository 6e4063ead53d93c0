/** Counts the answers that are not due, and tells each of them. */
final class Check {
    /** A call that may throw. */
    interface Call {
        long answer();
    }

    /** A call of an object, that may throw. */
    interface Use {
        long of(TramRibbon x);
    }

    private static int wrong = 0;

    private Check() {
    }

    /** One test of its own: whatever it throws is told, and the tests behind it still run. */
    static void test(String sentence, Runnable body) {
        int before = wrong;
        try {
            body.run();
        } catch (RuntimeException e) {
            fault("threw " + e);
        }
        if (wrong > before) {
            System.out.println("-- broken: " + sentence);
        }
    }

    static void due(String what, long got, long want) {
        if (got != want) {
            fault(what + " answered " + got + ", due is " + want);
        }
    }

    static void dueDouble(String what, double got, double want) {
        if (got != want) {
            fault(what + " answered " + got + ", due is " + want);
        }
    }

    static void dueText(String what, String got, String want) {
        if (!got.equals(want)) {
            fault(what + " tells\n   " + got + "\n due is\n   " + want);
        }
    }

    static void fault(String text) {
        wrong++;
        System.out.println(text);
    }

    /** The call throws just this class of exception, and leaves the object as it was. */
    static void refuses(TramRibbon x, String what, Class<? extends RuntimeException> want, Call call) {
        long before = x.digest();
        dueThrow(what, call, want);
        due(what + ", digest behind it", x.digest(), before);
    }

    /**
     * The call throws just this class of exception, and what it was called on is told and goes on
     * like another object that was made alike and never called so.
     */
    static void refused(Lines.Maker made, String what, Class<? extends RuntimeException> want, Use use) {
        TramRibbon x = made.make();
        dueThrow(what, () -> use.of(x), want);
        dueAlike(what + ", behind it", x, made.make());
    }

    /** The call answers this, and leaves the object as it was. */
    static void foretells(TramRibbon x, String what, long want, Call call) {
        long before = x.digest();
        due(what, call.answer(), want);
        due(what + ", digest behind it", x.digest(), before);
    }

    /** The two tell the same now, and 40 ticks later. */
    static void dueAlike(String what, TramRibbon x, TramRibbon y) {
        dueText(what, Readings.of(x), Readings.of(y));
        due(what + ", 40 ticks later, digest", x.pass(40) + x.digest(), y.pass(40) + y.digest());
    }

    private static void dueThrow(String what, Call call, Class<? extends RuntimeException> want) {
        Class<?> got = null;
        try {
            call.answer();
        } catch (RuntimeException e) {
            got = e.getClass();
        }
        if (got != want) {
            fault(what + " threw " + got + ", due is " + want);
        }
    }

    static void end(String test) {
        System.out.println(test + ": " + (wrong == 0 ? "all answers are as due" : wrong + " answers are not as due"));
        if (wrong != 0) {
            System.exit(1);
        }
    }
}
