import java.util.function.Supplier;

/** Compares answers with those that are due, prints every wrong one, and counts them. */
final class Check {
    private static final int TRIES = 3;

    private static int wrong = 0;
    private static int looked = 0;

    /** A call of the face, on any object. */
    interface Call {
        long on(LateCarries x);
    }

    private Check() {
    }

    static void same(String what, long got, long due) {
        looked++;
        if (got != due) {
            wrong++;
            System.out.println(what + " answered " + got + ", due is " + due);
        }
    }

    static void same(String what, String got, String due) {
        looked++;
        if (!got.equals(due)) {
            wrong++;
            System.out.println(what + " answered\n  " + got + "\ndue is\n  " + due);
        }
    }

    /** Digit and waiting number of each place of a counter, the lowest place first. */
    static void places(String what, LateCarries x, int c, int... digitsAndWaiting) {
        same(what + ": places of " + c, x.counter(c, 0), digitsAndWaiting.length / 2);
        for (int i = 0; i < digitsAndWaiting.length; i++) {
            same(what + ": place(" + c + ", " + i / 2 + ", " + i % 2 + ")", x.place(c, i / 2, i % 2), digitsAndWaiting[i]);
        }
    }

    /** The call has to throw exactly this exception, and to change nothing that a brief look tells. */
    static void refused(String what, LateCarries x, Class<? extends Exception> due, Runnable call) {
        String ahead = Look.brief(x);
        String got = "nothing";
        try {
            call.run();
        } catch (RuntimeException e) {
            got = e.getClass().getSimpleName();
        }
        same(what + " throws", got, due.getSimpleName());
        same("the state behind " + what, Look.brief(x), ahead);
    }

    /**
     * The call has to throw exactly this exception, however often it is made, and an object behind it has
     * to be like one on which it was never made: what it shows, what is remembered, slots and text.
     */
    static void refusal(String what, Supplier<LateCarries> made, Class<? extends Exception> due, Call call) {
        LateCarries x = made.get();
        for (int i = 0; i < TRIES; i++) {
            same(what, Look.answer(() -> call.on(x)), "throws." + due.getSimpleName());
        }
        same("all that there is behind " + what, Look.deep(x), Look.deep(made.get()));
    }

    /** The call has to answer so, and to change nothing at all. */
    static void asks(String what, Supplier<LateCarries> made, long due, Call call) {
        LateCarries x = made.get();
        for (int i = 0; i < TRIES; i++) {
            same(what, Look.answer(() -> call.on(x)), Long.toString(due));
        }
        same("all that there is behind " + what, Look.deep(x), Look.deep(made.get()));
    }

    static void finish(String name) {
        System.out.println(name + ": " + looked + " looked at, " + wrong + " wrong");
        if (wrong != 0) {
            System.exit(1);
        }
    }
}
