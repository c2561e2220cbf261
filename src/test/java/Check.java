import java.util.Objects;

/** Counts what is as due and what is not. */
final class Check {
    private static int right = 0;
    private static int wrong = 0;

    private Check() {
    }

    static void due(String what, Object want, Object got) {
        if (Objects.equals(want, got)) {
            right++;
        } else {
            wrong++;
            System.out.println(what + ": due is " + want + ", got " + got);
        }
    }

    static void due(String what, long want, long got) {
        due(what, (Object) want, (Object) got);
    }

    static void isTrue(String what, boolean is) {
        due(what, (Object) true, (Object) is);
    }

    /** The call throws just this exception, and the object answers as before. */
    static void refused(String what, BrakeCurve object, Class<? extends RuntimeException> kind, Runnable call) {
        long before = object.digest();
        Class<?> got = null;
        try {
            call.run();
        } catch (RuntimeException e) {
            got = e.getClass();
        }
        due(what + " throws", kind, got);
        due(what + " changes nothing", before, object.digest());
    }

    static void noIndex(String what, BrakeCurve object, Runnable call) {
        refused(what, object, IndexOutOfBoundsException.class, call);
    }

    static void noArgument(String what, BrakeCurve object, Runnable call) {
        refused(what, object, IllegalArgumentException.class, call);
    }

    static void noState(String what, BrakeCurve object, Runnable call) {
        refused(what, object, IllegalStateException.class, call);
    }

    static void end(String test) {
        System.out.println(test + ": " + right + " answers as due, " + wrong + " not");
        if (wrong != 0 || right == 0) {
            System.exit(1);
        }
    }
}
