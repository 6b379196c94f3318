/**
 * Counts the answers that are not as due, and ends a test with exit code 1 if there was one,
 * or if a call does not come to an end.
 */
final class Checks {
    private static final long LONGEST_TEST_MS = 300_000;

    private static int made = 0;
    private static int wrong = 0;
    private static String about = "";

    static {
        Thread watch = new Thread(Checks::stopTooLongATest);
        watch.setDaemon(true);
        watch.start();
    }

    private Checks() {
    }

    /** What the checks to come are for: told ahead of each that is wrong. */
    static void about(String what) {
        about = what + ": ";
    }

    static int made() {
        return made;
    }

    static void equal(String what, long got, long want) {
        made++;
        if (got != want) {
            wrong("%s answered %d, due is %d", what, got, want);
        }
    }

    static void holds(String what, boolean isSo) {
        made++;
        if (!isSo) {
            wrong("%s does not hold", what);
        }
    }

    /** Is exact about the class: a subclass of the exception that is due is wrong, too. */
    static void thrown(String what, Class<? extends RuntimeException> want, Runnable call) {
        made++;
        Class<?> got = null;
        try {
            call.run();
        } catch (RuntimeException e) {
            got = e.getClass();
        }
        if (got != want) {
            wrong("%s threw %s, due is %s", what, got, want);
        }
    }

    static void outside(String what, Runnable call) {
        thrown(what, IndexOutOfBoundsException.class, call);
    }

    static void badArgument(String what, Runnable call) {
        thrown(what, IllegalArgumentException.class, call);
    }

    static void badState(String what, Runnable call) {
        thrown(what, IllegalStateException.class, call);
    }

    static void noSuchElement(String what, Runnable call) {
        thrown(what, java.util.NoSuchElementException.class, call);
    }

    static void end() {
        System.out.println(made + " checks, " + wrong + " wrong");
        if (wrong > 0 || made == 0) {
            System.exit(1);
        }
    }

    private static void stopTooLongATest() {
        try {
            Thread.sleep(LONGEST_TEST_MS);
        } catch (InterruptedException e) {
            return;
        }
        System.out.println(about + "does not come to an end");
        Runtime.getRuntime().halt(1);
    }

    private static void wrong(String form, Object... parts) {
        wrong++;
        System.out.println(about + String.format(form, parts));
    }
}
