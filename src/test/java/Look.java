import java.util.function.LongSupplier;

/** What the calls tell of an object, as one text. */
final class Look {
    private static final int MORE_THAN_REMEMBERED = 20;

    private Look() {
    }

    static String answer(LongSupplier call) {
        try {
            return Long.toString(call.getAsLong());
        } catch (RuntimeException e) {
            return "throws." + e.getClass().getSimpleName();
        }
    }

    /** Everything that the reading calls tell. */
    static String at(LateCarries x) {
        StringBuilder b = new StringBuilder("error ").append(x.errorPosition()).append(" about");
        for (int what = 0; what <= 6; what++) {
            b.append(' ').append(x.about(what));
        }
        for (int c = 0; c < x.about(0); c++) {
            counterInto(b, x, c);
        }
        for (int k = 0; k < x.about(3); k++) {
            b.append(" ticket");
            for (int what = 0; what <= 4; what++) {
                b.append(' ').append(x.ticket(k, what));
            }
            b.append(" sorted ").append(x.sorted(k));
        }
        return b.toString();
    }

    /**
     * All that there is to be known of an object, which is used up by it: the state, what is remembered,
     * one state behind the other, both save slots, and the text.
     */
    static String deep(LateCarries x) {
        StringBuilder b = new StringBuilder(at(x));
        for (int i = 0; i < MORE_THAN_REMEMBERED; i++) {
            String left = answer(x::undo);
            b.append("\n  undo ").append(left).append(':');
            briefInto(b, x);
            if (left.startsWith("throws")) {
                break;
            }
        }
        for (int slot = 0; slot <= 1; slot++) {
            int which = slot;
            b.append("\n  restore ").append(answer(() -> x.restore(which))).append(':');
            briefInto(b, x);
        }
        b.append("\n  error ").append(x.errorPosition()).append(" load ").append(answer(x::load)).append(':');
        briefInto(b, x);
        return b.append(" length ").append(x.clearText()).toString();
    }

    private static void briefInto(StringBuilder b, LateCarries x) {
        for (int what = 1; what <= 5; what++) {
            b.append(' ').append(x.about(what));
        }
        b.append(' ').append(x.worth(0)).append(' ').append(x.counter(0, 0)).append(' ').append(x.counter(0, 1));
    }

    private static void counterInto(StringBuilder b, LateCarries x, int c) {
        b.append(" | shown ").append(x.shown(c)).append(" worth ").append(x.worth(c));
        b.append(" ranked ").append(x.ranked(c, false)).append(' ').append(x.ranked(c, true)).append(" what");
        for (int what = 0; what <= 5; what++) {
            b.append(' ').append(x.counter(c, what));
        }
        for (int p = 0; p < x.counter(c, 0); p++) {
            b.append(' ').append(x.place(c, p, 0)).append('w').append(x.place(c, p, 1));
        }
    }
}
