/** Compares answers with those that are due, and tells the wrong ones. */
final class Check {
    interface Call {
        void run();
    }

    private final String name;
    private int rows;
    private int wrong;

    Check(String name) {
        this.name = name;
    }

    void due(String what, long got, long want) {
        tell(what, got == want, String.valueOf(got), String.valueOf(want));
    }

    void due(String what, boolean got, boolean want) {
        tell(what, got == want, String.valueOf(got), String.valueOf(want));
    }

    void dueDouble(String what, double got, double want) {
        tell(what, got == want, String.valueOf(got), String.valueOf(want));
    }

    void dueText(String what, String got, String want) {
        tell(what, got.equals(want), got, want);
    }

    /** The call must throw exactly this exception, not one of a class below it, and do so itself. */
    void fails(String what, Class<? extends RuntimeException> want, Call call) {
        String got = "nothing";
        try {
            call.run();
        } catch (RuntimeException e) {
            got = nameOf(e);
        }
        tell(what, got.equals(want.getName()), got, want.getName());
    }

    /** As fails, and nothing that the match holds may have changed. */
    void refuses(String what, Class<? extends RuntimeException> want, Scrumward x, Call call) {
        String before = State.of(x);
        fails(what, want, call);
        boolean isSame = State.of(x).equals(before);
        tell(what + ", what the match holds", isSame, isSame ? "the same" : State.of(x), before);
    }

    /** The call must throw nothing. */
    void works(String what, Call call) {
        String got = "nothing thrown";
        try {
            call.run();
        } catch (RuntimeException e) {
            got = nameOf(e);
        }
        tell(what, got.equals("nothing thrown"), got, "nothing thrown");
    }

    /** The name of what was thrown, with the place where it was if a throw of the program did not make it. */
    static String nameOf(RuntimeException e) {
        StackTraceElement[] rows = e.getStackTrace();
        boolean isOwn = rows.length > 0 && rows[0].getClassName().equals("Scrumward") && e.getMessage() != null;
        return e.getClass().getName() + (isOwn ? "" : " of the machine or the library");
    }

    void end() {
        System.out.println(name + ": " + rows + " rows, " + wrong + " wrong");
        if (wrong != 0) {
            System.exit(1);
        }
    }

    private void tell(String what, boolean isRight, String got, String want) {
        rows++;
        if (!isRight) {
            wrong++;
            System.out.println(name + ": " + what + " answered " + got + ", due is " + want);
        }
    }
}
