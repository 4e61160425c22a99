import java.util.function.LongSupplier;

/** What the calls tell of an object, as one text. */
final class Look {
    private static final int MORE_THAN_REMEMBERED = 20;

    private Look() {
    }

    static String answer(LongSupplier call) {
        try {
            return Long.toString(call.getAsLong());
        } catch (RuntimeException e) {
            return "throws." + e.getClass().getSimpleName();
        }
    }

    /**
     * The whole state, by no more calls than it takes, for an object answers for 512 calls only: what is
     * sorted, ranked or counted from these numbers has tests of its own.
     */
    static String at(LateCarries x) {
        StringBuilder b = new StringBuilder("error ").append(x.errorPosition()).append(" about");
        int counters = x.about(0);
        int tickets = x.about(3);
        b.append(' ').append(counters).append(' ').append(tickets);
        for (int what : new int[] {1, 2, 4, 5, 6}) {
            b.append(' ').append(x.about(what));
        }
        for (int c = 0; c < counters; c++) {
            counterInto(b, x, c);
        }
        for (int k = 0; k < tickets; k++) {
            b.append(" ticket");
            for (int what : new int[] {0, 1, 2, 4}) {
                b.append(' ').append(x.ticket(k, what));
            }
        }
        return b.toString();
    }

    /** So much of the state that most of what could be changed is seen, by few calls whatever the line is. */
    static String brief(LateCarries x) {
        StringBuilder b = new StringBuilder("error ").append(x.errorPosition()).append(" about");
        int counters = x.about(0);
        for (int what = 1; what <= 5; what++) {
            b.append(' ').append(x.about(what));
        }
        for (int c = 0; c < counters; c++) {
            b.append(" | ").append(x.shown(c)).append(' ').append(x.worth(c));
            for (int what = 0; what <= 2; what++) {
                b.append(' ').append(x.counter(c, what));
            }
        }
        return b.toString();
    }

    /**
     * All that there is to be known of an object, which is used up by it: the state, what is remembered,
     * one state behind the other, both save slots, and the text.
     */
    static String deep(LateCarries x) {
        StringBuilder b = new StringBuilder(at(x));
        for (int i = 0; i < MORE_THAN_REMEMBERED; i++) {
            String left = answer(x::undo);
            b.append("\n  undo ").append(left).append(':');
            fewInto(b, x);
            if (left.startsWith("throws")) {
                break;
            }
        }
        for (int slot = 0; slot <= 1; slot++) {
            int which = slot;
            b.append("\n  restore ").append(answer(() -> x.restore(which))).append(':');
            fewInto(b, x);
        }
        b.append("\n  error ").append(x.errorPosition()).append(" load ").append(answer(x::load)).append(':');
        fewInto(b, x);
        return b.append(" length ").append(x.clearText()).toString();
    }

    private static void fewInto(StringBuilder b, LateCarries x) {
        for (int what = 1; what <= 5; what++) {
            b.append(' ').append(x.about(what));
        }
        b.append(' ').append(x.worth(0)).append(' ').append(x.counter(0, 0)).append(' ').append(x.counter(0, 1));
    }

    private static void counterInto(StringBuilder b, LateCarries x, int c) {
        int places = x.counter(c, 0);
        b.append(" | shown ").append(x.shown(c)).append(" worth ").append(x.worth(c)).append(" places ").append(places);
        b.append(" linked ").append(x.counter(c, 1)).append(" spilled ").append(x.counter(c, 2)).append(':');
        for (int p = 0; p < places; p++) {
            b.append(' ').append(x.place(c, p, 0)).append('w').append(x.place(c, p, 1));
        }
    }
}
