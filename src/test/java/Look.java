/** Everything that the reading calls tell of an object, as one text. */
final class Look {
    private Look() {
    }

    static String at(LateCarries x) {
        StringBuilder b = new StringBuilder("error ").append(x.errorPosition()).append(" about");
        for (int what = 0; what <= 6; what++) {
            b.append(' ').append(x.about(what));
        }
        for (int c = 0; c < x.about(0); c++) {
            counterInto(b, x, c);
        }
        for (int k = 0; k < x.about(3); k++) {
            b.append(" ticket");
            for (int what = 0; what <= 4; what++) {
                b.append(' ').append(x.ticket(k, what));
            }
            b.append(" sorted ").append(x.sorted(k));
        }
        return b.toString();
    }

    private static void counterInto(StringBuilder b, LateCarries x, int c) {
        b.append(" | shown ").append(x.shown(c)).append(" worth ").append(x.worth(c));
        b.append(" ranked ").append(x.ranked(c, false)).append(' ').append(x.ranked(c, true)).append(" what");
        for (int what = 0; what <= 5; what++) {
            b.append(' ').append(x.counter(c, what));
        }
        for (int p = 0; p < x.counter(c, 0); p++) {
            b.append(' ').append(x.place(c, p, 0)).append('w').append(x.place(c, p, 1));
        }
    }
}
