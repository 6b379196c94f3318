/** Counts the answers that are not as due, and ends a test with exit code 1 if there was one. */
final class Checks {
    private static int made = 0;
    private static int wrong = 0;

    private Checks() {
    }

    static void equal(String what, long got, long want) {
        made++;
        if (got != want) {
            wrong("%s answered %d, due is %d", what, got, want);
        }
    }

    static void holds(String what, boolean isSo) {
        made++;
        if (!isSo) {
            wrong("%s does not hold", what);
        }
    }

    /** Is exact about the class: a subclass of the exception that is due is wrong, too. */
    static void thrown(String what, Class<? extends RuntimeException> want, Runnable call) {
        made++;
        Class<?> got = null;
        try {
            call.run();
        } catch (RuntimeException e) {
            got = e.getClass();
        }
        if (got != want) {
            wrong("%s threw %s, due is %s", what, got, want);
        }
    }

    static void outside(String what, Runnable call) {
        thrown(what, IndexOutOfBoundsException.class, call);
    }

    static void badArgument(String what, Runnable call) {
        thrown(what, IllegalArgumentException.class, call);
    }

    static void badState(String what, Runnable call) {
        thrown(what, IllegalStateException.class, call);
    }

    static void end() {
        System.out.println(made + " checks, " + wrong + " wrong");
        if (wrong > 0 || made == 0) {
            System.exit(1);
        }
    }

    private static void wrong(String form, Object... parts) {
        wrong++;
        System.out.println(String.format(form, parts));
    }
}
