/** Counts the checks of one test program, and prints each one that fails. */
final class Checks {
    private int made;
    private int wrong;

    void same(String what, long got, long due) {
        made++;
        if (got != due) {
            wrong++;
            System.out.println(what + " answered " + got + ", due is " + due);
        }
    }

    void sameDouble(String what, double got, double due) {
        made++;
        if (Double.compare(got, due) != 0) {
            wrong++;
            System.out.println(what + " answered " + got + ", due is " + due);
        }
    }

    void sameText(String what, String got, String due) {
        made++;
        if (!got.equals(due)) {
            wrong++;
            System.out.println(what + " answered " + got + ", due is " + due);
        }
    }

    void isTrue(String what, boolean holds) {
        made++;
        if (!holds) {
            wrong++;
            System.out.println(what + " does not hold");
        }
    }

    /** The call throws just this exception, and changes nothing of the harp. */
    void refused(String what, GlassHarp harp, Class<? extends RuntimeException> due, Runnable call) {
        made++;
        long before = harp.digest();
        String thrown = "nothing";
        try {
            call.run();
        } catch (RuntimeException e) {
            thrown = e.getClass().getSimpleName();
        }
        if (!thrown.equals(due.getSimpleName())) {
            wrong++;
            System.out.println(what + " threw " + thrown + ", due is " + due.getSimpleName());
        }
        if (harp.digest() != before) {
            wrong++;
            System.out.println(what + " changed something");
        }
    }

    /** The call changes nothing of the harp. */
    void unchanged(String what, GlassHarp harp, Runnable call) {
        made++;
        long before = harp.digest();
        call.run();
        if (harp.digest() != before) {
            wrong++;
            System.out.println(what + " changed something");
        }
    }

    /** Ends the program with exit code 1 if a check failed. */
    void end() {
        System.out.println(made + " checks, " + wrong + " wrong");
        if (wrong != 0 || made == 0) {
            System.exit(1);
        }
    }
}
