/** Counts the calls whose answers are not the ones that are due, and prints them. */
final class Due {

    interface Call {
        long answer();
    }

    private final String title;
    private int checked = 0;
    private int wrong = 0;

    Due(String title) {
        this.title = title;
    }

    void is(String what, long want, long got) {
        check(got == want, what + " answered " + got + ", due is " + want);
    }

    void is(String what, boolean want, boolean got) {
        check(got == want, what + " answered " + got + ", due is " + want);
    }

    void are(String what, String want, String got) {
        check(got.equals(want), what + " answered " + got + ", due is " + want);
    }

    /**
     * The call must throw just this class, not one below it, and the object must then answer as one on which it
     * was not called: what it shows, and what later calls do.
     */
    void fails(String what, Class<? extends RuntimeException> want, Run x, Run.Call call) {
        Run shown = x.again();
        String got = outcome(() -> call.on(shown));
        check(got.equals(want.getName()), what + " gave " + got + ", due is " + want.getName());
        check(Look.at(shown).equals(Look.at(x.again())), what + " changed what the object shows");
        Run changed = x.again();
        outcome(() -> call.on(changed));
        check(Look.after(changed).equals(Look.after(x.again())), what + " changed what later calls do");
    }

    /** The answer of a call as a text, or the name of the exception that it throws. */
    static String outcome(Call call) {
        try {
            return String.valueOf(call.answer());
        } catch (RuntimeException e) {
            return e.getClass().getName();
        }
    }

    void check(boolean right, String otherwise) {
        checked++;
        if (!right) {
            wrong++;
            System.out.println(title + ": " + otherwise);
        }
    }

    int wrong() {
        return wrong;
    }

    void tell() {
        System.out.println(title + ": " + checked + " checks, " + wrong + " wrong");
    }

    void end() {
        tell();
        if (wrong != 0) {
            System.exit(1);
        }
    }
}
