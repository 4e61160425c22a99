import java.util.function.Supplier;

/** The boundary cases of promises 1 to 13: a new object, the text, and what there is. */
public final class EdgesOfReadingTest {
    private static final Class<IndexOutOfBoundsException> INDEX = IndexOutOfBoundsException.class;
    private static final Class<IllegalArgumentException> ARGUMENT = IllegalArgumentException.class;
    private static final Class<IllegalStateException> STATE = IllegalStateException.class;
    private static final Supplier<LateCarries> BUSY = () -> Lines.busy("2+1>0--/12");
    private static final int[] FAR = {Integer.MIN_VALUE, Integer.MIN_VALUE + 1, Integer.MAX_VALUE - 1, Integer.MAX_VALUE};

    private EdgesOfReadingTest() {
    }

    public static void main(String[] args) {
        promise1NewObject();
        promise2Append();
        promise3ClearText();
        promise4ErrorPosition();
        promise5Load();
        promise5LoadLeavesNothingAbove();
        promise5LoadOfWhatIsNoLine();
        promise6About();
        promise7Shown();
        promise8Worth();
        promise9Counter();
        promise10Place();
        promise11Ticket();
        promise12Sorted();
        promise13Ranked();
        Check.finish("EdgesOfReadingTest");
    }

    private static LateCarries alike(int n) {
        LateCarries x = new LateCarries();
        for (int i = 0; i < n; i++) {
            x.draw(0);
        }
        return x;
    }

    // ---- promise 1

    private static void promise1NewObject() {
        LateCarries x = new LateCarries();
        int[] about = {3, 1, 0, 0, 3, 0, 0};
        for (int what = 0; what < about.length; what++) {
            Check.same("new: about(" + what + ")", x.about(what), about[what]);
        }
        int[] counter = {4, 0, 0, 0, 0, 0};
        for (int c = 0; c < 3; c++) {
            for (int what = 0; what < counter.length; what++) {
                Check.same("new: counter(" + c + ", " + what + ")", x.counter(c, what), counter[what]);
            }
        }
        Check.refusal("new: a fourth counter", LateCarries::new, INDEX, y -> y.shown(3));
        Check.refusal("new: a fifth place", LateCarries::new, INDEX, y -> y.place(2, 4, 0));
        Check.refusal("new: a ticket", LateCarries::new, INDEX, y -> y.ticket(0, 0));
        Check.refusal("new: sorted(0)", LateCarries::new, INDEX, y -> y.sorted(0));
        Check.refusal("new: undo()", LateCarries::new, STATE, LateCarries::undo);
        Check.refusal("new: restore(0)", LateCarries::new, STATE, y -> y.restore(0));
        Check.refusal("new: restore(1)", LateCarries::new, STATE, y -> y.restore(1));
        Check.refusal("new: load()", LateCarries::new, STATE, LateCarries::load);
        Check.asks("new: errorPosition()", LateCarries::new, 0, LateCarries::errorPosition);
        Check.asks("new: clearText()", LateCarries::new, 0, LateCarries::clearText);
        oneObjectLeavesTheOtherAlone();
    }

    private static void oneObjectLeavesTheOtherAlone() {
        LateCarries x = new LateCarries();
        LateCarries other = Lines.busy("2+1>0--/12");
        other.settled(0);
        Check.same("a new one beside a busy one", Look.deep(x), Look.deep(new LateCarries()));
        Check.same("a busy one beside a new one", Look.deep(other), Look.deep(BUSY.get()));
    }

    // ---- promises 2 to 4

    private static LateCarries withSigns(int n) {
        LateCarries x = Lines.busy("1/2");
        x.clearText();
        for (int i = 0; i < n; i++) {
            x.append('0');
        }
        return x;
    }

    /** "c: character code, 0 to 255", "if the text already has 100 characters" */
    private static void promise2Append() {
        LateCarries x = new LateCarries();
        Check.same("append(0)", x.append(0), 1);
        Check.same("append(255)", x.append(255), 2);
        for (int length = 3; length <= 100; length++) {
            Check.same("append to " + length, x.append('0'), length);
        }
        Check.same("100 are there", x.clearText(), 100);
        Check.same("append behind clearText()", x.append('1'), 1);
        for (int n : new int[] {0, 1, 99, 100}) {
            Check.refusal("append(-1) to " + n, () -> withSigns(n), ARGUMENT, y -> y.append(-1));
            Check.refusal("append(256) to " + n, () -> withSigns(n), ARGUMENT, y -> y.append(256));
            for (int far : FAR) {
                Check.refusal("append(" + far + ") to " + n, () -> withSigns(n), ARGUMENT, y -> y.append(far));
            }
        }
        Check.refusal("append(0) to 100", () -> withSigns(100), STATE, y -> y.append(0));
        Check.refusal("append(255) to 100", () -> withSigns(100), STATE, y -> y.append(255));
        Check.same("append(255) to 99", withSigns(99).append(255), 100);
    }

    /** "Empties the text buffer. Returns the previous length of the text." */
    private static void promise3ClearText() {
        for (int n : new int[] {0, 1, 99, 100}) {
            LateCarries x = withSigns(n);
            Check.same("clearText() of " + n, x.clearText(), n);
            Check.same("clearText() again", x.clearText(), 0);
            Check.same("behind it the text is empty", x.errorPosition(), 0);
            Check.same("nothing else is different", Look.deep(x), Look.deep(withSigns(0)));
            LateCarries y = withSigns(n);
            y.clearText();
            for (int length = 1; length <= 100; length++) {
                Check.same("there is room for 100 again", y.append('0'), length);
            }
        }
    }

    /** "Returns the error position of the text; NONE if it is a line." The rules of a line: EdgesOfTermsTest. */
    private static void promise4ErrorPosition() {
        String[] texts = {"", "0", "3", "0/", "0/x", "012012012", "0120120120"};
        int[] due = {0, -1, 0, 2, 2, -1, 9};
        for (int i = 0; i < texts.length; i++) {
            String text = texts[i];
            Supplier<LateCarries> made = () -> {
                LateCarries x = Lines.busy("1/2");
                Lines.type(x, text);
                return x;
            };
            Check.asks("errorPosition() of " + text, made, due[i], LateCarries::errorPosition);
        }
        Check.same("NONE", LateCarries.NONE, -1);
    }

    // ---- promise 5

    /** "Replaces everything [...] Forgets all remembered states, and empties both save slots. Keeps the text." */
    private static void promise5Load() {
        String[] lines = {"0", "2+++++", "012012012", "2-----1+", "0/1>2/0>1/2+", "2>2>2>2>2>2",
            "2+>1-/012012012"};
        for (String line : lines) {
            for (String old : new String[] {"0", "2+2+2+2+2+2+2+2+2+", "2+>2+>2+>2+>2+>2+", "2+2-1/0>111"}) {
                LateCarries x = Lines.busy(old);
                x.draw(0);
                x.resize(0, 1);
                x.add(0, 2);
                x.beats(5);
                Lines.type(x, line);
                int counters = x.load();
                Check.same("load() of " + line + " behind " + old, counters, line.split("[/>]").length);
                Check.same("twice the same", x.load(), counters);
                Check.same("the text is kept", x.errorPosition(), -1);
                Check.same("undo() behind load()", Look.answer(x::undo), "throws.IllegalStateException");
                Check.same("restore(0) behind load()", Look.answer(() -> x.restore(0)), "throws.IllegalStateException");
                Check.same("restore(1) behind load()", Look.answer(() -> x.restore(1)), "throws.IllegalStateException");
                nothingIsLeftAbove(x, line);
            }
        }
    }

    /** Something waits at all places that a text of 100 characters has room for, when the new line comes. */
    private static void promise5LoadLeavesNothingAbove() {
        String[] lines = {"0", "1/2", "00000000/1", "0/0/0/0/0/0"};
        String[] olds = {"2+1-2+1-2+1-2+1-2+>222222222/0-1+0-1+0-1+0-1+0->000000000/1+1+1+1+1+1+1+1+1+>0-2-0-2-0-2-0-2-0-",
            "111111111>1+2+1+2+1+2+1+2+1+/111111111>1-2-1-2-1-2-1-2-1->111111111>1+2+1+2+1+2+1+2+1+"};
        for (String line : lines) {
            for (String old : olds) {
                LateCarries x = Lines.of(old);
                Check.same("six counters ahead", x.about(0), 6);
                Lines.type(x, line);
                x.load();
                nothingIsLeftAbove(x, line);
            }
        }
    }

    /** With all counters made as long as they can be, x has to be like one that had no other line. */
    private static void nothingIsLeftAbove(LateCarries x, String line) {
        LateCarries fresh = Lines.of(line);
        Check.same("like a fresh one: " + line, Look.at(x), Look.at(fresh));
        for (int c = 0; c < x.about(0); c++) {
            Check.same("the places ahead", x.resize(c, 9), fresh.resize(c, 9));
        }
        Check.same("like a fresh one, made longer: " + line, Look.at(x), Look.at(fresh));
        Check.same("the text's length", x.clearText(), line.length());
    }

    /** "Throws IllegalStateException if the text is not a line": and then it replaces nothing. */
    private static void promise5LoadOfWhatIsNoLine() {
        String[] texts = {"", "3", "+", "/", "0/", "0>", "0//0", "0+-", "0++++++", "0120120120", "0/0/0/0/0/0/0",
            "0/0/0/0/0/0/", "0 ", "0\u0000", "0\u00ff"};
        for (String text : texts) {
            Supplier<LateCarries> made = () -> {
                LateCarries x = BUSY.get();
                Lines.type(x, text);
                return x;
            };
            Check.refusal("load() of " + text, made, STATE, LateCarries::load);
        }
    }

    // ---- promises 6 to 10

    /** "what: 0 [...] to 6", each number at its lowest and at its greatest. */
    private static void promise6About() {
        for (int what : new int[] {-1, 7}) {
            Check.refusal("about(" + what + ")", BUSY, ARGUMENT, x -> x.about(what));
        }
        for (int far : FAR) {
            Check.refusal("about(" + far + ")", BUSY, ARGUMENT, x -> x.about(far));
        }
        String all = "0+0+0+0+0+0+0+0+0+";
        LateCarries least = Lines.of("0+");
        int[] lowest = {1, 1, 0, 0, 0, 1, 0};
        for (int what = 0; what < lowest.length; what++) {
            Check.same("about(" + what + ") of one", least.about(what), lowest[what]);
        }
        LateCarries most = Lines.of("0/0/0/0/0/0");
        most.setPace(9);
        for (int c = 0; c < 6; c++) {
            most.resize(c, 9);
        }
        Check.same("six settled counters", most.about(4), 6);
        Check.same("nothing waits", most.about(5), 0);
        for (int c = 0; c < 6; c++) {
            most.add(c, c % 2 == 0 ? 19682 : -9841);
            Check.same("settled counters", most.about(4), 5 - c);
            Check.same("places at which something waits", most.about(5), 9 * (c + 1));
        }
        for (int i = 0; i < 40; i++) {
            Check.same("doubles of " + i, most.about(6), i * (i - 1) / 2);
            most.draw(0);
            Check.same("tickets", most.about(3), i + 1);
        }
        Check.same("780 doubles", most.about(6), 780);
        Check.same("six counters", most.about(0), 6);
        Check.same("the pace 9", most.about(1), 9);
        for (int i = 1; i <= 10; i++) {
            most.beats(99);
            Check.same("beats so far", most.about(2), 99 * i);
        }
        Check.same("a line of nine that wait", Lines.of(all).about(5), 9);
    }

    private static void promise7Shown() {
        Check.asks("shown(0), the lowest", () -> Lines.of("0"), 0, x -> x.shown(0));
        Check.asks("shown(0) of one place", () -> Lines.of("2+"), 2, x -> x.shown(0));
        Check.asks("shown(5), the greatest", () -> Lines.of("0/0/0/0/0/222222222-"), 19682, x -> x.shown(5));
        Check.asks("shown(0) of places high and low", () -> Lines.of("100000002"), 6563, x -> x.shown(0));
        for (int c : new int[] {-1, 3, Integer.MIN_VALUE, Integer.MAX_VALUE}) {
            Check.refusal("shown(" + c + ")", BUSY, INDEX, x -> x.shown(c));
        }
    }

    private static void promise8Worth() {
        Check.asks("worth(0), nothing", () -> Lines.of("0"), 0, x -> x.worth(0));
        Check.asks("worth(0), below 0", () -> Lines.of("0-----"), -5, x -> x.worth(0));
        Check.asks("worth(0), more than it can show", () -> Lines.of("2+++++"), 7, x -> x.worth(0));
        Check.asks("worth(5)", () -> Lines.of("0/0/0/0/0/1+00000000-"), 2 * 6561 - 1, x -> x.worth(5));
        Check.asks("what waits at the highest", () -> Lines.of("0-00000000"), -6561, x -> x.worth(0));
        for (int c : new int[] {-1, 3, Integer.MIN_VALUE, Integer.MAX_VALUE}) {
            Check.refusal("worth(" + c + ")", BUSY, INDEX, x -> x.worth(c));
        }
    }

    /** "if what is not 0 to 5", each number at its lowest and at its greatest. */
    private static void promise9Counter() {
        for (int what : new int[] {-1, 6}) {
            Check.refusal("counter(0, " + what + ")", BUSY, ARGUMENT, x -> x.counter(0, what));
        }
        for (int far : FAR) {
            Check.refusal("counter(0, " + far + ")", BUSY, ARGUMENT, x -> x.counter(0, far));
            Check.refusal("counter(" + far + ", 0)", BUSY, INDEX, x -> x.counter(far, 0));
        }
        for (int c : new int[] {-1, 3}) {
            Check.refusal("counter(" + c + ", 0)", BUSY, INDEX, x -> x.counter(c, 0));
            Check.refusal("counter(" + c + ", 6)", BUSY, INDEX, x -> x.counter(c, 6));
        }
        LateCarries x = Lines.of("1+/2+2+2+2+2+2+2+2+2+>2+/0/0/111111111-");
        int[][] due = {{1, 0, 0, 0, 1, 1}, {9, 1, 0, 0, 9, 18}, {1, 0, 0, 0, 1, 2}, {1, 0, 0, 0, 0, 0}, {1, 0, 0, 0, 0, 0},
            {9, 0, 0, 0, 1, 9}};
        for (int c = 0; c < due.length; c++) {
            for (int what = 0; what < due[c].length; what++) {
                Check.same("counter(" + c + ", " + what + ")", x.counter(c, what), due[c][what]);
            }
        }
        for (int i = 1; i <= 40; i++) {
            x.draw(1);
            Check.same("tickets of it", x.counter(1, 3), i);
            Check.same("tickets of another", x.counter(0, 3), 0);
        }
        x.beats(1);
        Check.same("a linked one spills nothing", x.counter(1, 2), 0);
        spilledLessBorrows();
    }

    /** "2: the carries that it has spilled so far less the borrows" */
    private static void spilledLessBorrows() {
        LateCarries x = Lines.of("2+");
        int[] added = {0, 0, 1, -1, -1, -1, 1, 2};
        int[] shown = {0, 0, 1, 0, 2, 1, 2, 1};
        int[] spilled = {1, 1, 1, 1, 0, 0, 0, 1};
        for (int i = 0; i < added.length; i++) {
            x.add(0, added[i]);
            x.beats(2);
            Check.same("shown behind " + i, x.shown(0), shown[i]);
            Check.same("spilled behind " + i, x.counter(0, 2), spilled[i]);
        }
        LateCarries below = Lines.of("0-");
        below.beats(1);
        Check.same("a borrow alone", below.counter(0, 2), -1);
    }

    /** "if there is no such counter or place", "if what is not 0 or 1" */
    private static void promise10Place() {
        for (int c : new int[] {-1, 3, Integer.MIN_VALUE, Integer.MAX_VALUE}) {
            Check.refusal("place(" + c + ", 0, 0)", BUSY, INDEX, x -> x.place(c, 0, 0));
            Check.refusal("place(" + c + ", 0, 2)", BUSY, INDEX, x -> x.place(c, 0, 2));
        }
        for (int p : new int[] {-1, 2, 8, 9, Integer.MIN_VALUE, Integer.MAX_VALUE}) {
            Check.refusal("place(0, " + p + ", 0)", BUSY, INDEX, x -> x.place(0, p, 0));
            Check.refusal("place(0, " + p + ", -1)", BUSY, INDEX, x -> x.place(0, p, -1));
        }
        Check.refusal("place(1, 1, 0) of one place", BUSY, INDEX, x -> x.place(1, 1, 0));
        for (int what : new int[] {-1, 2, Integer.MIN_VALUE, Integer.MAX_VALUE}) {
            Check.refusal("place(0, 0, " + what + ")", BUSY, ARGUMENT, x -> x.place(0, 0, what));
        }
        Supplier<LateCarries> nine = () -> Lines.of("0/0/0/0/0/2-----00000001+++++");
        Check.asks("the lowest digit", nine, 1, x -> x.place(5, 0, 0));
        Check.asks("most carries of a text", nine, 5, x -> x.place(5, 0, 1));
        Check.asks("the highest digit", nine, 2, x -> x.place(5, 8, 0));
        Check.asks("most borrows of a text", nine, -5, x -> x.place(5, 8, 1));
        Check.refusal("a tenth place", nine, INDEX, x -> x.place(5, 9, 0));
        LateCarries sized = new LateCarries();
        sized.resize(0, 9);
        Check.same("the highest place there is", sized.place(0, 8, 0), 0);
        sized.resize(0, 1);
        Check.refused("a place that went", sized, INDEX, () -> sized.place(0, 1, 0));
    }

    // ---- promises 11 to 13

    /** "if there is no such ticket", "if what is not 0 to 4" */
    private static void promise11Ticket() {
        for (int k : new int[] {-1, 2, 39, 40, Integer.MIN_VALUE, Integer.MAX_VALUE}) {
            Check.refusal("ticket(" + k + ", 0)", BUSY, INDEX, x -> x.ticket(k, 0));
            Check.refusal("ticket(" + k + ", 5)", BUSY, INDEX, x -> x.ticket(k, 5));
        }
        for (int what : new int[] {-1, 5, Integer.MIN_VALUE, Integer.MAX_VALUE}) {
            Check.refusal("ticket(0, " + what + ")", BUSY, ARGUMENT, x -> x.ticket(0, what));
        }
        Check.refusal("ticket(0, 0) of none", LateCarries::new, INDEX, x -> x.ticket(0, 0));
        Supplier<LateCarries> full = () -> alike(40);
        Check.asks("ticket(39, 3): all others", full, 39, x -> x.ticket(39, 3));
        Check.asks("ticket(0, 3): all others", full, 39, x -> x.ticket(0, 3));
        Check.asks("ticket(39, 4): what waited ahead of it", full, 39, x -> x.ticket(39, 4));
        Check.asks("ticket(0, 4): nothing waited", full, 0, x -> x.ticket(0, 4));
        Check.refusal("ticket(40, 0)", full, INDEX, x -> x.ticket(40, 0));
        LateCarries x = Lines.of("0/0/0/0/0/222222222");
        x.add(5, -19682);
        x.beats(99);
        x.beats(99);
        x.add(5, -19682);
        x.draw(5);
        long[] due = {5, 0, 198, 0, -19682};
        for (int what = 0; what < due.length; what++) {
            Check.same("ticket(0, " + what + ")", x.ticket(0, what), due[what]);
        }
        ticketExcess("222222222", 0);
        ticketExcess("222222222-", -1);
        ticketExcess("1+", 1);
        ticketExcess("0+", 1);
        ticketExcess("1+2---", 0);
        ticketExcess("2-----2-----", -20);
        x.beats(50);
        x.setPace(5);
        for (int what = 0; what < due.length; what++) {
            Check.same("it stays: ticket(0, " + what + ")", x.ticket(0, what), due[what]);
        }
    }

    /** "4: how much greater than its number the worth of the counter was just ahead of its drawing" */
    private static void ticketExcess(String line, int due) {
        Supplier<LateCarries> drawn = () -> {
            LateCarries x = Lines.of(line);
            x.draw(0);
            return x;
        };
        Check.asks("ticket(0, 4) of " + line, drawn, due, x -> x.ticket(0, 4));
    }

    /** "the lowest number first, of like ones the lowest counter, then the one that was drawn first" */
    private static void promise12Sorted() {
        for (int k : new int[] {-1, 2, 40, Integer.MIN_VALUE, Integer.MAX_VALUE}) {
            Check.refusal("sorted(" + k + ") of two", BUSY, INDEX, x -> x.sorted(k));
        }
        Check.refusal("sorted(0) of none", LateCarries::new, INDEX, x -> x.sorted(0));
        Check.refusal("sorted(1) of one", () -> alike(1), INDEX, x -> x.sorted(1));
        Check.asks("sorted(0) of one", () -> alike(1), 0, x -> x.sorted(0));
        LateCarries all = alike(40);
        for (int k = 0; k < 40; k++) {
            Check.same("the one that was drawn first", all.sorted(k), k);
        }
        Check.refused("sorted(40)", all, INDEX, () -> all.sorted(40));
        LateCarries x = Lines.of("2/1/1/1/0");
        for (int i = 0; i < 40; i++) {
            x.draw(i % 5);
        }
        int k = 0;
        for (int c : new int[] {4, 1, 2, 3, 0}) {
            for (int i = 0; i < 8; i++) {
                Check.same("sorted(" + k + ")", x.sorted(k), c + 5 * i);
                k++;
            }
        }
    }

    /** "the greatest first, of like ones the lowest counter", "whether by their worths, or by what they show" */
    private static void promise13Ranked() {
        for (int k : new int[] {-1, 3, 6, Integer.MIN_VALUE, Integer.MAX_VALUE}) {
            Check.refusal("ranked(" + k + ", true)", BUSY, INDEX, x -> x.ranked(k, true));
            Check.refusal("ranked(" + k + ", false)", BUSY, INDEX, x -> x.ranked(k, false));
        }
        Check.asks("ranked(0, true) of one", () -> Lines.of("0-"), 0, x -> x.ranked(0, true));
        Check.refusal("ranked(1, true) of one", () -> Lines.of("0-"), INDEX, x -> x.ranked(1, true));
        String[] lines = {"0/0/0/0/0/0", "0/1/2/0/1/2", "2/2/1/1/0/0", "0/0+/0-/1-/1--/2--", "222222222+/222222222/0/0-/1-/0--"};
        int[][] shown = {{0, 1, 2, 3, 4, 5}, {2, 5, 1, 4, 0, 3}, {0, 1, 2, 3, 4, 5}, {5, 3, 4, 0, 1, 2}, {0, 1, 4, 2, 3, 5}};
        int[][] worths = {{0, 1, 2, 3, 4, 5}, {2, 5, 1, 4, 0, 3}, {0, 1, 2, 3, 4, 5}, {1, 0, 3, 5, 2, 4}, {0, 1, 2, 4, 3, 5}};
        for (int i = 0; i < lines.length; i++) {
            LateCarries x = Lines.of(lines[i]);
            for (int k = 0; k < 6; k++) {
                Check.same("ranked(" + k + ", false) of " + lines[i], x.ranked(k, false), shown[i][k]);
                Check.same("ranked(" + k + ", true) of " + lines[i], x.ranked(k, true), worths[i][k]);
            }
        }
    }
}
