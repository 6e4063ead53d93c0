/** Counts the answers that are not due, and tells each of them. */
final class Check {
    /** A call that may throw. */
    interface Call {
        long answer();
    }

    private static int wrong = 0;

    private Check() {
    }

    static void due(String what, long got, long want) {
        if (got != want) {
            fault(what + " answered " + got + ", due is " + want);
        }
    }

    static void dueDouble(String what, double got, double want) {
        if (got != want) {
            fault(what + " answered " + got + ", due is " + want);
        }
    }

    static void fault(String text) {
        wrong++;
        System.out.println(text);
    }

    /** The call throws just this class of exception, and leaves the object as it was. */
    static void refuses(TramRibbon x, String what, Class<? extends RuntimeException> want, Call call) {
        long before = x.digest();
        Class<?> got = null;
        try {
            call.answer();
        } catch (RuntimeException e) {
            got = e.getClass();
        }
        if (got != want) {
            fault(what + " threw " + got + ", due is " + want);
        }
        due(what + ", digest behind it", x.digest(), before);
    }

    /** The call answers this, and leaves the object as it was. */
    static void foretells(TramRibbon x, String what, long want, Call call) {
        long before = x.digest();
        due(what, call.answer(), want);
        due(what + ", digest behind it", x.digest(), before);
    }

    static void end(String test) {
        System.out.println(test + ": " + (wrong == 0 ? "all answers are as due" : wrong + " answers are not as due"));
        if (wrong != 0) {
            System.exit(1);
        }
    }
}
