import java.util.function.Supplier;

/** The boundary cases of promises 14 to 21: the actions, and undo. */
public final class EdgesOfActionsTest {
    private static final Class<IndexOutOfBoundsException> INDEX = IndexOutOfBoundsException.class;
    private static final Class<IllegalArgumentException> ARGUMENT = IllegalArgumentException.class;
    private static final Class<IllegalStateException> STATE = IllegalStateException.class;
    private static final Supplier<LateCarries> BUSY = () -> Lines.busy("2+1>0--/12");
    private static final int[] NO_COUNTER = {-1, 3, 6, Integer.MIN_VALUE, Integer.MAX_VALUE};

    private EdgesOfActionsTest() {
    }

    public static void main(String[] args) {
        promise14AddRange();
        promise14AddDigitsAndPlaces();
        promise14AddToWhatWaits();
        promise15Draw();
        promise16Beats();
        promise16BeatsAreOneBehindTheOther();
        promise17SetPace();
        promise18Link();
        promise19Resize();
        promise19ResizeTakesWhatIsAbove();
        promise20Pour();
        promise20PourOverTheTop();
        promise20PourWorth();
        promise21Undo();
        promise21UndoTakesBackAll();
        Check.finish("EdgesOfActionsTest");
    }

    // ---- promise 14

    /** "v: -19682 to 19682" */
    private static void promise14AddRange() {
        LateCarries x = Lines.of("000000000/000000000");
        Check.same("add(0, 19682)", x.add(0, 19682), 18);
        Check.places("two at each place", x, 0, 0, 2, 0, 2, 0, 2, 0, 2, 0, 2, 0, 2, 0, 2, 0, 2, 0, 2);
        Check.same("add(1, -19682)", x.add(1, -19682), 18);
        Check.places("two borrows at each", x, 1, 0, -2, 0, -2, 0, -2, 0, -2, 0, -2, 0, -2, 0, -2, 0, -2, 0, -2);
        Supplier<LateCarries> nine = () -> Lines.busy("000000000/0");
        for (int c = 0; c <= 1; c++) {
            int which = c;
            for (int v : new int[] {19683, -19683, 19684, Integer.MAX_VALUE, Integer.MIN_VALUE, Integer.MIN_VALUE + 1}) {
                Check.refusal("add(" + c + ", " + v + ")", nine, ARGUMENT, y -> y.add(which, v));
            }
        }
        for (int c : NO_COUNTER) {
            Check.refusal("add(" + c + ", 0)", BUSY, INDEX, y -> y.add(c, 0));
            Check.refusal("add(" + c + ", 19683)", BUSY, INDEX, y -> y.add(c, 19683));
            Check.refusal("add(" + c + ", 19682)", BUSY, INDEX, y -> y.add(c, 19682));
        }
    }

    /** "if v has more digits in the base of three than the counter has places", "Returns how many [...] come to wait." */
    private static void promise14AddDigitsAndPlaces() {
        int power = 1;
        for (int n = 1; n <= 9; n++) {
            power *= 3;
            String line = "0".repeat(n);
            int most = power - 1;
            LateCarries x = Lines.of(line);
            Check.same("add(0, " + most + ") to " + n, x.add(0, most), 2 * n);
            Check.same("its worth", x.worth(0), most);
            Check.same("add(0, " + -most + ") to " + n, x.add(0, -most), 2 * n);
            Check.same("they meet", x.about(5), 0);
            Check.same("add(0, 0) to " + n, x.add(0, 0), 0);
            Check.same("one carry at the highest", x.add(0, power / 3), 1);
            Check.same("it waits there", x.place(0, n - 1, 1), 1);
            Check.same("one carry at the lowest", x.add(0, 1), 1);
            Check.same("it waits there", x.place(0, 0, 1), n == 1 ? 2 : 1);
            if (n < 9) {
                int more = power;
                Check.refusal("add(0, " + more + ") to " + n, () -> Lines.busy(line), STATE, y -> y.add(0, more));
                Check.refusal("add(0, " + -more + ") to " + n, () -> Lines.busy(line), STATE, y -> y.add(0, -more));
                Check.refusal("add(0, 19682) to " + n, () -> Lines.busy(line), STATE, y -> y.add(0, 19682));
                Check.refusal("add(0, -19682) to " + n, () -> Lines.busy(line), STATE, y -> y.add(0, -19682));
            }
        }
        LateCarries shorter = Lines.of("000");
        shorter.resize(0, 2);
        Check.refused("add(0, 9) behind resize to 2", shorter, STATE, () -> shorter.add(0, 9));
        shorter.resize(0, 3);
        Check.same("add(0, 9) behind resize to 3", shorter.add(0, 9), 1);
    }

    /** "its digits in the base of three come to wait at the places, the lowest at place 0" */
    private static void promise14AddToWhatWaits() {
        LateCarries x = Lines.of("1+2-0/0");
        Check.same("add(0, 15)", x.add(0, 15), 3);
        Check.places("120 more", x, 0, 0, 0, 2, 1, 1, 2);
        Check.same("add(0, -14)", x.add(0, -14), 4);
        Check.places("112 less", x, 0, 0, -2, 2, 0, 1, 1);
        Check.same("add(1, -1)", x.add(1, -1), 1);
        Check.same("add(1, 2)", x.add(1, 2), 2);
        Check.places("above 0 again", x, 1, 0, 1);
        Check.same("add(1, -2)", x.add(1, -2), 2);
        Check.places("below 0 again", x, 1, 0, -1);
        Check.same("no digit is different", x.shown(0), 15);
    }

    // ---- promise 15

    /** "if 40 tickets were drawn" */
    private static void promise15Draw() {
        Supplier<LateCarries> full = () -> {
            LateCarries x = Lines.withTickets(40);
            x.save(1);
            return x;
        };
        for (int c = 0; c < 3; c++) {
            int which = c;
            Check.refusal("the 41st of " + c, full, STATE, x -> x.draw(which));
        }
        for (int c : NO_COUNTER) {
            Check.refusal("draw(" + c + ")", BUSY, INDEX, x -> x.draw(c));
            Check.refusal("draw(" + c + ") behind 40", full, INDEX, x -> x.draw(c));
        }
        LateCarries x = Lines.of("0/0/0/0/0/222222222-");
        for (int i = 0; i < 40; i++) {
            Check.same("draw(5)", x.draw(5), 19682);
            Check.same("waiting behind it", x.place(5, 0, 1), i);
        }
        Check.refused("the 41st of the sixth", x, STATE, () -> x.draw(5));
        x.undo();
        Check.same("draw(0) with one taken back", x.draw(0), 0);
        Check.same("40 again", x.about(3), 40);
    }

    // ---- promise 16

    /** "n: 1 to 99", "Returns how many counters are settled then." */
    private static void promise16Beats() {
        for (int n : new int[] {0, -1, 100, Integer.MIN_VALUE, Integer.MAX_VALUE}) {
            Check.refusal("beats(" + n + ")", BUSY, ARGUMENT, x -> x.beats(n));
        }
        LateCarries x = Lines.of("0++/0+/0/0--/0+++/0-----");
        int[] settled = {2, 4, 5, 5, 6, 6};
        for (int i = 0; i < settled.length; i++) {
            Check.same("beats(1), the " + i + "th", x.beats(1), settled[i]);
            Check.same("beats so far", x.about(2), i + 1);
        }
        Check.same("beats(99)", x.beats(99), 6);
        Check.same("99 more", x.about(2), 105);
        Check.same("none is settled", Lines.of("0++").beats(1), 0);
        Check.same("the only one is settled", Lines.of("0++").beats(2), 1);
        LateCarries heap = Lines.of("0");
        for (int i = 0; i < 100; i++) {
            heap.add(0, 1);
        }
        Check.same("99 of 100", heap.beats(99), 0);
        Check.places("one is left", heap, 0, 0, 1);
        Check.same("the 100th", heap.beats(1), 1);
    }

    private static void promise16BeatsAreOneBehindTheOther() {
        String[] lines = {"2+2+2+>2-0>1/0-----0", "222222222+>2+", "0+++++>0-----"};
        for (String line : lines) {
            for (int n : new int[] {1, 2, 3, 50, 99}) {
                LateCarries once = Lines.of(line);
                LateCarries single = Lines.of(line);
                int settled = once.beats(n);
                for (int i = 1; i < n; i++) {
                    single.beats(1);
                }
                Check.same("beats(" + n + ") of " + line, settled, single.beats(1));
                Check.same("the state behind them", Look.at(once), Look.at(single));
                Check.same("but one action", once.undo(), 0);
                Check.same("all of them are taken back", Look.at(once), Look.at(Lines.of(line)));
            }
        }
    }

    // ---- promise 17

    /** "pace: 1 to 9", "Returns the previous one." */
    private static void promise17SetPace() {
        for (int pace : new int[] {0, -1, 10, Integer.MIN_VALUE, Integer.MAX_VALUE}) {
            Check.refusal("setPace(" + pace + ")", BUSY, ARGUMENT, x -> x.setPace(pace));
        }
        LateCarries x = new LateCarries();
        int previous = 1;
        for (int pace : new int[] {1, 9, 9, 1, 5}) {
            Check.same("setPace(" + pace + ")", x.setPace(pace), previous);
            Check.same("the pace", x.about(1), pace);
            previous = pace;
        }
        Check.same("five actions", x.undo(), 4);
        Check.same("the pace ahead", x.about(1), 1);
    }

    // ---- promise 18

    /** "if there is no such counter, or it is the last one", "Returns how many counters are linked then." */
    private static void promise18Link() {
        for (int c : new int[] {2, -1, 3, 6, Integer.MIN_VALUE, Integer.MAX_VALUE}) {
            Check.refusal("link(" + c + ", true)", BUSY, INDEX, x -> x.link(c, true));
            Check.refusal("link(" + c + ", false)", BUSY, INDEX, x -> x.link(c, false));
        }
        for (boolean is : new boolean[] {true, false}) {
            Check.refusal("link(0, " + is + ") of one", () -> Lines.busy("0"), INDEX, x -> x.link(0, is));
            Check.refusal("link(5, " + is + ") of six", () -> Lines.busy("0/0/0/0/0/0"), INDEX, x -> x.link(5, is));
        }
        LateCarries x = Lines.of("0/0/0/0/0/0");
        Check.same("none is linked then", x.link(4, false), 0);
        for (int c = 4; c >= 0; c--) {
            Check.same("link(" + c + ", true)", x.link(c, true), 5 - c);
            Check.same("again", x.link(c, true), 5 - c);
            Check.same("linked", x.counter(c, 1), 1);
        }
        for (int c = 0; c < 5; c++) {
            Check.same("link(" + c + ", false)", x.link(c, false), 4 - c);
            Check.same("again", x.link(c, false), 4 - c);
            Check.same("not linked", x.counter(c, 1), 0);
        }
        LateCarries two = Lines.of("2+/0");
        Check.same("the first of two", two.link(0, true), 1);
        two.beats(1);
        Check.places("a carry goes on there", two, 1, 0, 1);
    }

    // ---- promise 19

    /** "n: 1 to 9", "Returns the previous number of places." */
    private static void promise19Resize() {
        for (int n : new int[] {0, -1, 10, Integer.MIN_VALUE, Integer.MAX_VALUE}) {
            Check.refusal("resize(0, " + n + ")", BUSY, ARGUMENT, x -> x.resize(0, n));
            Check.refusal("resize(3, " + n + ")", BUSY, INDEX, x -> x.resize(3, n));
        }
        for (int c : NO_COUNTER) {
            Check.refusal("resize(" + c + ", 1)", BUSY, INDEX, x -> x.resize(c, 1));
        }
        for (int from = 1; from <= 9; from++) {
            for (int to = 1; to <= 9; to++) {
                LateCarries x = Lines.of("2+".repeat(from) + ">1");
                Check.same("resize from " + from + " to " + to, x.resize(0, to), from);
                Check.same("places", x.counter(0, 0), to);
                for (int p = 0; p < to; p++) {
                    Check.same("digit " + p + " from " + from + " to " + to, x.place(0, p, 0), p < from ? 2 : 0);
                    Check.same("waiting " + p + " from " + from + " to " + to, x.place(0, p, 1), p < from ? 1 : 0);
                }
                Check.same("nothing is spilled", x.counter(0, 2), 0);
                Check.same("it stays linked", x.counter(0, 1), 1);
                Check.places("the next one is as it was", x, 1, 1, 0);
            }
        }
    }

    /** "the highest ones go, with all that waits there (nothing of that is spilled)" */
    private static void promise19ResizeTakesWhatIsAbove() {
        LateCarries x = Lines.of("2+++++1-----0/0");
        x.resize(0, 1);
        x.resize(0, 3);
        Check.places("they do not come back", x, 0, 0, 0, 0, 0, 0, 0);
        Check.same("so the counter is settled", x.about(4), 2);
        x.undo();
        x.undo();
        Check.places("but for undo", x, 0, 0, 0, 1, -5, 2, 5);
        LateCarries top = Lines.of("02+>0");
        top.resize(0, 1);
        top.beats(1);
        Check.places("the carry goes from the new highest place", top, 1, 0, 1);
        LateCarries higher = Lines.of("2+>0");
        higher.resize(0, 2);
        higher.beats(1);
        Check.places("it goes to the new place", higher, 0, 0, 0, 0, 1);
        Check.places("and not to the next counter", higher, 1, 0, 0);
        LateCarries last = Lines.of("0/0/0/0/0/22");
        Check.same("resize(5, 9) of six", last.resize(5, 9), 2);
        Check.same("shown as before", last.shown(5), 8);
        Check.same("resize(5, 1) of six", last.resize(5, 1), 9);
        Check.same("shown by one place", last.shown(5), 2);
    }

    // ---- promise 20

    /** "if there is no such counter", "if both are the same" */
    private static void promise20Pour() {
        for (int c : NO_COUNTER) {
            Check.refusal("pour(" + c + ", 0)", BUSY, INDEX, x -> x.pour(c, 0));
            Check.refusal("pour(0, " + c + ")", BUSY, INDEX, x -> x.pour(0, c));
            Check.refusal("pour(" + c + ", " + c + ")", BUSY, INDEX, x -> x.pour(c, c));
        }
        for (int c = 0; c < 3; c++) {
            int both = c;
            Check.refusal("pour(" + c + ", " + c + ")", BUSY, ARGUMENT, x -> x.pour(both, both));
        }
        Check.refusal("pour(0, 0) of one", () -> Lines.busy("0"), ARGUMENT, x -> x.pour(0, 0));
        Check.refusal("pour(0, 1) of one", () -> Lines.busy("0"), INDEX, x -> x.pour(0, 1));
        LateCarries x = Lines.of("21/0/0/0/0/10");
        Check.same("pour(0, 5)", x.pour(0, 5), 7);
        Check.places("all of c is 0", x, 0, 0, 0, 0, 0);
        Check.places("the digits of d stay", x, 5, 0, 1, 1, 2);
        Check.same("pour(5, 0)", x.pour(5, 0), 10);
        Check.places("digits and what waits, together", x, 0, 0, 1, 0, 3);
        Check.same("pour of an empty one", x.pour(5, 0), 0);
        Check.same("nothing is spilled", x.counter(0, 2) + x.counter(5, 2), 0);
    }

    /** "if d has no such place, are spilled by d, linked or not, as so many carries or borrows" */
    private static void promise20PourOverTheTop() {
        for (String between : new String[] {"/", ">"}) {
            LateCarries x = Lines.of("2+1--0+/10" + between + "0");
            Check.same("pour(0, 1)", x.pour(0, 1), -2);
            Check.places("d", x, 1, 0, 1, 1, -1);
            Check.same("spilled by d", x.counter(1, 2), 3);
            Check.same("not by c", x.counter(0, 2), 0);
            Check.places("nor does it come to the next one", x, 2, 0, 0);
        }
        LateCarries borrows = Lines.of("0-0--1/0");
        Check.same("pour(0, 1) of borrows", borrows.pour(0, 1), 1);
        Check.same("borrows are spilled", borrows.counter(1, 2), -3);
        LateCarries nine = Lines.of("222222222/0/00000000");
        nine.pour(0, 2);
        Check.same("the ninth place is spilled", nine.counter(2, 2), 2);
        Check.same("eight are not", nine.worth(2), 6560);
        nine.pour(2, 1);
        Check.same("seven places are spilled", nine.counter(1, 2), 14);
        Check.places("the lowest comes to wait", nine, 1, 0, 2);
        nine.pour(1, 0);
        Check.places("one place to nine", nine, 0, 0, 2, 0, 0, 0, 0, 0, 0, 0, 0, 0, 0, 0, 0, 0, 0, 0, 0);
    }

    /** "Returns how much greater the worth of d is then." */
    private static void promise20PourWorth() {
        Check.same("below 0", Lines.of("0-0/11").pour(0, 1), -3);
        Check.same("just 0", Lines.of("1---0++/11").pour(0, 1), -4);
        Check.same("digit and borrow are nothing", Lines.of("2--1-/11").pour(0, 1), 0);
        Check.same("the greatest that is shown", Lines.of("222222222/000000000").pour(0, 1), 19682);
        Check.same("all that is above is not of d", Lines.of("222222220/0").pour(0, 1), 0);
        LateCarries x = Lines.of("2+++++".repeat(9) + "/000000000");
        Check.same("more than is shown", x.pour(0, 1), 7 * 9841);
    }

    // ---- promise 21

    /** "if none is remembered", "Returns how many states are still remembered." */
    private static void promise21Undo() {
        Check.refusal("undo() of a new one", LateCarries::new, STATE, LateCarries::undo);
        Supplier<LateCarries> usedUp = () -> {
            LateCarries x = BUSY.get();
            for (int i = 13; i >= 0; i--) {
                Check.same("undo() of 14", x.undo(), i);
            }
            return x;
        };
        Check.refusal("undo() behind 14", usedUp, STATE, LateCarries::undo);
        Supplier<LateCarries> restored = () -> {
            LateCarries x = BUSY.get();
            x.restore(0);
            return x;
        };
        Check.refusal("undo() behind restore", restored, STATE, LateCarries::undo);
        Supplier<LateCarries> loaded = () -> {
            LateCarries x = BUSY.get();
            Lines.type(x, "1+");
            x.load();
            return x;
        };
        Check.refusal("undo() behind load", loaded, STATE, LateCarries::undo);
        LateCarries one = new LateCarries();
        one.draw(0);
        Check.same("undo() of one", one.undo(), 0);
        one.draw(0);
        Check.same("undo() of one again", one.undo(), 0);
    }

    /** Every kind of action, again and again, until 14 times the oldest state was forgotten. */
    private static void promise21UndoTakesBackAll() {
        Check.Call[] actions = {
            x -> x.draw(2), x -> x.add(0, -3), x -> x.beats(2), x -> x.pour(0, 2), x -> x.link(0, false), x -> x.resize(0, 3),
            x -> x.setPace(2), x -> x.beats(99), x -> x.link(1, true), x -> x.resize(2, 1)};
        for (int taken = 1; taken <= 14; taken++) {
            LateCarries x = behind(actions, 28);
            for (int i = 1; i <= taken; i++) {
                Check.same("undo()", x.undo(), 14 - i);
            }
            Check.same("the state with " + taken + " taken back", Look.at(x), Look.at(behind(actions, 28 - taken)));
        }
        LateCarries none = behind(actions, 28);
        for (int i = 13; i >= 0; i--) {
            Check.same("undo()", none.undo(), i);
        }
        Check.same("no more", Look.answer(none::undo), "throws.IllegalStateException");
    }

    private static LateCarries behind(Check.Call[] actions, int n) {
        LateCarries x = Lines.of("12+>2/0-");
        for (int i = 0; i < n; i++) {
            actions[i % actions.length].on(x);
        }
        return x;
    }
}
