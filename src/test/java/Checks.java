/** Counts the checks of one test program, and prints each one that fails. */
final class Checks {
    private int made;
    private int wrong;
    private String about = "";

    /** What the checks that follow are for. */
    void about(String words) {
        about = words + ": ";
    }

    int made() {
        return made;
    }

    void same(String what, long got, long due) {
        verdict(got == due, what + " answered " + got + ", due is " + due);
    }

    void sameDouble(String what, double got, double due) {
        verdict(Double.compare(got, due) == 0, what + " answered " + got + ", due is " + due);
    }

    void sameText(String what, String got, String due) {
        verdict(got.equals(due), what + " answered " + got + ", due is " + due);
    }

    void isTrue(String what, boolean holds) {
        verdict(holds, what + " does not hold");
    }

    /** The call throws just this exception, and changes nothing of the harp. */
    void refused(String what, GlassHarp harp, Class<? extends RuntimeException> due, Runnable call) {
        unchanged(what, harp, () -> sameText(what, thrownBy(call), due.getSimpleName()));
    }

    /** The call throws nothing, and changes nothing of the harp. */
    void allowed(String what, GlassHarp harp, Runnable call) {
        unchanged(what, harp, () -> sameText(what, thrownBy(call), "nothing"));
    }

    private void unchanged(String what, GlassHarp harp, Runnable call) {
        long before = harp.digest();
        call.run();
        verdict(harp.digest() == before, what + " changed something");
    }

    /** The simple name of the exception, or "nothing". */
    static String thrownBy(Runnable call) {
        try {
            call.run();
        } catch (RuntimeException e) {
            return e.getClass().getSimpleName();
        }
        return "nothing";
    }

    private void verdict(boolean holds, String told) {
        made++;
        if (!holds) {
            wrong++;
            System.out.println(about + told);
        }
    }

    /** Ends the program with exit code 1 if a check failed. */
    void end() {
        System.out.println(made + " checks, " + wrong + " wrong");
        if (wrong != 0 || made == 0) {
            System.exit(1);
        }
    }
}
