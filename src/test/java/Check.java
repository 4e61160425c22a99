/** Compares answers with those that are due, prints every wrong one, and counts them. */
final class Check {
    private static int wrong = 0;
    private static int looked = 0;

    private Check() {
    }

    static void same(String what, long got, long due) {
        looked++;
        if (got != due) {
            wrong++;
            System.out.println(what + " answered " + got + ", due is " + due);
        }
    }

    static void same(String what, String got, String due) {
        looked++;
        if (!got.equals(due)) {
            wrong++;
            System.out.println(what + " answered\n  " + got + "\ndue is\n  " + due);
        }
    }

    /** The call has to throw exactly this exception, and to change nothing. */
    static void refused(String what, LateCarries x, Class<? extends Exception> due, Runnable call) {
        String ahead = Look.at(x);
        String got = "nothing";
        try {
            call.run();
        } catch (RuntimeException e) {
            got = e.getClass().getSimpleName();
        }
        same(what + " throws", got, due.getSimpleName());
        same("the state behind " + what, Look.at(x), ahead);
    }

    static void finish(String name) {
        System.out.println(name + ": " + looked + " looked at, " + wrong + " wrong");
        if (wrong != 0) {
            System.exit(1);
        }
    }
}
