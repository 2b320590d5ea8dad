/** Counts and prints the calls whose answer is not the one that is due. */
final class Check {
    /** A call that answers a number. */
    interface Call {
        int answer();
    }

    /** A call that answers nothing. */
    interface Deed {
        void run();
    }

    private int wrong;
    private int calls;
    private String about = "";

    void promise(String name) {
        about = name;
    }

    void due(int want, String call, Call made) {
        calls++;
        String got = outcome(made);
        if (!got.equals(Integer.toString(want))) {
            tell(call, got, Integer.toString(want));
        }
    }

    void refused(Class<? extends RuntimeException> want, String call, Deed made) {
        calls++;
        String got = outcome(made);
        if (!got.equals(want.getSimpleName())) {
            tell(call, got, want.getSimpleName());
        }
    }

    void done(String call, Deed made) {
        calls++;
        String got = outcome(made);
        if (!got.equals("nothing")) {
            tell(call, got, "nothing");
        }
    }

    void same(String want, String got, String call) {
        calls++;
        if (!got.equals(want)) {
            tell(call, got, want);
        }
    }

    /** Ends the test: with exit code 1 when an answer was wrong, or when nothing was asked. */
    void end() {
        System.out.println(calls + " calls, " + wrong + " wrong");
        if (wrong > 0 || calls == 0) {
            System.exit(1);
        }
    }

    static String outcome(Call made) {
        try {
            return Integer.toString(made.answer());
        } catch (RuntimeException e) {
            return e.getClass().getSimpleName();
        }
    }

    static String outcome(Deed made) {
        try {
            made.run();
            return "nothing";
        } catch (RuntimeException e) {
            return e.getClass().getSimpleName();
        }
    }

    private void tell(String call, String got, String want) {
        wrong++;
        if (wrong <= 50) {
            System.out.println(about + ": " + call + " answered " + got + ", due is " + want);
        }
    }
}
