/** Counts the answers of one test and tells those that are not the ones that are due. */
final class Due {
    private int looked;
    private int wrong;

    void same(String what, long due, long got) {
        looked++;
        if (got != due) {
            wrong++;
            System.out.println(what + " answered " + got + ", due is " + due);
        }
    }

    void yes(String what, boolean got) {
        same(what, 1, got ? 1 : 0);
    }

    void no(String what, boolean got) {
        same(what, 0, got ? 1 : 0);
    }

    void fails(String what, Class<? extends RuntimeException> due, Runnable call) {
        looked++;
        String got = "nothing";
        try {
            call.run();
        } catch (RuntimeException e) {
            got = e.getClass().getName();
        }
        if (!got.equals(due.getName())) {
            wrong++;
            System.out.println(what + " threw " + got + ", due is " + due.getName());
        }
    }

    /** Whether some answer was looked at, and none was wrong. */
    boolean isRight() {
        return looked != 0 && wrong == 0;
    }

    /** Ends the test: exit code 1 if an answer was wrong, or if none was looked at. */
    void end() {
        System.out.println(looked + " answers, " + wrong + " wrong");
        if (!isRight()) {
            System.exit(1);
        }
    }
}
