/** Counts the answers that are not as due, and ends a test by them. */
final class Check {
    private int looked;
    private int wrong;

    void due(String what, long got, long want) {
        looked++;
        if (got != want) {
            wrong++;
            System.out.println(what + " answered " + got + ", due is " + want);
        }
    }

    void due(String what, String got, String want) {
        looked++;
        if (!got.equals(want)) {
            wrong++;
            System.out.println(what + " answered " + got + ", due is " + want);
        }
    }

    /** The call is to throw an IllegalArgumentException and to change nothing that can be seen. */
    void refuses(String what, PictureMachine machine, Runnable call) {
        refuses(what, machine, call, "IllegalArgumentException");
    }

    void refuses(String what, PictureMachine machine, Runnable call, String exception) {
        String before = Machines.seen(machine);
        String thrown = "nothing";
        try {
            call.run();
        } catch (RuntimeException e) {
            thrown = e.getClass().getSimpleName();
        }
        due(what + " throws", thrown, exception);
        due(what + " leaves", Machines.seen(machine), before);
    }

    /** Whether something was looked at, and all of it was as due. */
    boolean isRight() {
        return looked > 0 && wrong == 0;
    }

    void end() {
        System.out.println(looked + " answers looked at, " + wrong + " wrong");
        if (wrong != 0) {
            System.exit(1);
        }
    }
}
