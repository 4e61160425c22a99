import java.util.function.Supplier;

/** At least one test for each promise, worked out by hand from the document. */
public final class PromiseTest {
    private static final Class<IndexOutOfBoundsException> INDEX = IndexOutOfBoundsException.class;
    private static final Class<IllegalArgumentException> ARGUMENT = IllegalArgumentException.class;
    private static final Class<IllegalStateException> STATE = IllegalStateException.class;

    private PromiseTest() {
    }

    public static void main(String[] args) {
        promise1NewObject();
        promise2Append();
        promise3ClearText();
        promise4ErrorPosition();
        promise5Load();
        promise6About();
        promise7Shown();
        promise8Worth();
        promise9Counter();
        promise10Place();
        promise11Ticket();
        promise12Sorted();
        promise13Ranked();
        promise14Add();
        promise15Draw();
        promise16Beats();
        promise17SetPace();
        promise18Link();
        promise19Resize();
        promise20Pour();
        promise21Undo();
        promise22Settled();
        promise23ShownAtLast();
        promise24WhenShown();
        promise25LeastPace();
        promise26Slowest();
        promise27Doubles();
        promise28RunScript();
        promise29Simulate();
        promise30Save();
        promise31Restore();
        Check.finish("PromiseTest");
    }

    private static void promise1NewObject() {
        LateCarries x = new LateCarries();
        Check.same("NONE", LateCarries.NONE, -1);
        int[] due = {3, 1, 0, 0, 3, 0, 0};
        for (int what = 0; what < due.length; what++) {
            Check.same("new: about(" + what + ")", x.about(what), due[what]);
        }
        for (int c = 0; c < 3; c++) {
            Check.same("new: places", x.counter(c, 0), 4);
            Check.same("new: linked", x.counter(c, 1), 0);
            Check.same("new: spilled", x.counter(c, 2), 0);
            Check.places("new", x, c, 0, 0, 0, 0, 0, 0, 0, 0);
        }
        Check.same("new: clearText()", x.clearText(), 0);
        Check.refused("new: undo()", x, STATE, x::undo);
        Check.refused("new: restore(0)", x, STATE, () -> x.restore(0));
        Check.refused("new: restore(1)", x, STATE, () -> x.restore(1));
        Check.refused("new: shown(3)", x, INDEX, () -> x.shown(3));
        Check.refused("new: place(0, 4, 0)", x, INDEX, () -> x.place(0, 4, 0));
        Check.refused("new: ticket(0, 0)", x, INDEX, () -> x.ticket(0, 0));
    }

    private static void promise2Append() {
        LateCarries x = new LateCarries();
        Check.same("append(0)", x.append(0), 1);
        Check.same("append(255)", x.append(255), 2);
        Check.refused("append(-1)", x, ARGUMENT, () -> x.append(-1));
        Check.refused("append(256)", x, ARGUMENT, () -> x.append(256));
        Check.refused("append(65536 + 48)", x, ARGUMENT, () -> x.append(65536 + 48));
        for (int length = 3; length <= 100; length++) {
            Check.same("append('0')", x.append('0'), length);
        }
        Check.refused("append('0') to 100", x, STATE, () -> x.append('0'));
        Check.refused("append(256) to 100", x, ARGUMENT, () -> x.append(256));
        Check.same("clearText()", x.clearText(), 100);
        Check.same("append('1') behind it", x.append('1'), 1);
        Check.refused("undo() behind append", x, STATE, x::undo);
    }

    private static void promise3ClearText() {
        LateCarries x = Lines.of("12");
        Check.same("clearText()", x.clearText(), 2);
        Check.same("clearText() again", x.clearText(), 0);
        Check.same("errorPosition() behind it", x.errorPosition(), 0);
        Check.same("the counters stay", x.shown(0), 5);
    }

    private static void error(String text, int due) {
        LateCarries x = new LateCarries();
        Lines.type(x, text);
        Check.same("errorPosition() of " + text, x.errorPosition(), due);
    }

    private static void promise4ErrorPosition() {
        error("", 0);
        error("0", -1);
        error("3", 0);
        error("+", 0);
        error("-1", 0);
        error("/", 0);
        error("0/", 2);
        error("0>", 2);
        error("0//", 2);
        error("0>/0", 2);
        error("0/+", 2);
        error("0+-", 2);
        error("0-+", 2);
        error("0+1-2", -1);
        error("0+++++", -1);
        error("0-----", -1);
        error("0++++++", 6);
        error("0+++++-", 6);
        error("0------1", 6);
        error("0+++++1+++++", -1);
        error("012012012", -1);
        error("0120120120", 9);
        error("0120120123", 9);
        error("0+1+2+0+1+2+0+1+2+0", 18);
        error("012012012+/012012012", -1);
        error("0/1>2/0>1/2", -1);
        error("0/1>2/0>1/2/", 11);
        error("0/1>2/0>1/2>0", 11);
        error("0 ", 1);
        error(" 0", 0);
        error("0\u00ff", 1);
        error("0\u0000", 1);
        error("2=1", 1);
        error("2.1", 1);
        error("1,1", 1);
    }

    private static void promise5Load() {
        LateCarries x = new LateCarries();
        x.add(0, 40);
        x.draw(2);
        x.setPace(4);
        x.add(0, -2);
        x.resize(0, 1);
        x.beats(3);
        Check.same("spilled ahead of load", x.counter(0, 2), -1);
        x.save(0);
        x.save(1);
        Lines.type(x, "12+/0--0>2");
        Check.same("load()", x.load(), 3);
        Check.places("loaded", x, 0, 2, 1, 1, 0);
        Check.places("loaded", x, 1, 0, 0, 0, -2);
        Check.places("loaded", x, 2, 2, 0);
        int[] about = {3, 1, 0, 0, 1, 2, 0};
        for (int what = 0; what < about.length; what++) {
            Check.same("loaded: about(" + what + ")", x.about(what), about[what]);
        }
        int[] size = {2, 2, 1};
        for (int c = 0; c < 3; c++) {
            Check.same("loaded: places", x.counter(c, 0), size[c]);
            Check.same("loaded: linked", x.counter(c, 1), c == 1 ? 1 : 0);
            Check.same("loaded: spilled", x.counter(c, 2), 0);
            Check.same("loaded: tickets", x.counter(c, 3), 0);
        }
        Check.refused("undo() behind load", x, STATE, x::undo);
        Check.refused("restore(0) behind load", x, STATE, () -> x.restore(0));
        Check.refused("restore(1) behind load", x, STATE, () -> x.restore(1));
        Check.same("the text is kept", x.errorPosition(), -1);
        Check.same("its length", x.clearText(), 10);
        loadAgain(x);
    }

    private static void loadAgain(LateCarries x) {
        x.add(0, 1);
        x.save(0);
        Lines.type(x, "0+-");
        Check.refused("load() of no line", x, STATE, x::load);
        Check.same("a refused load keeps the slot", x.restore(0), 0);
        x.add(0, 1);
        Check.refused("load() of no line", x, STATE, x::load);
        Check.same("a refused load keeps what is remembered", x.undo(), 0);
        Lines.type(x, "2+2-2+2-2+2-2+2-2+>1>1>1>1>222222222");
        Check.same("load() of six", x.load(), 6);
        Check.same("nine places", x.counter(5, 0), 9);
        Check.same("greatest", x.shown(5), 19682);
        Check.same("the last one is not linked", x.counter(5, 1), 0);
        Lines.type(x, "2");
        Check.same("load() of one", x.load(), 1);
        Check.same("it is not linked any more", x.counter(0, 1), 0);
        x.resize(0, 9);
        Check.places("nothing of the line ahead is left above", x, 0, 2, 0, 0, 0, 0, 0, 0, 0, 0, 0, 0, 0, 0, 0, 0, 0, 0, 0);
        Check.same("one counter", x.about(0), 1);
        Check.refused("link(0, true) of one", x, INDEX, () -> x.link(0, true));
    }

    private static void promise6About() {
        LateCarries x = Lines.of("12+2-/01/2--");
        x.setPace(7);
        x.draw(1);
        x.draw(1);
        x.draw(1);
        x.draw(0);
        int[] due = {3, 7, 0, 4, 0, 3, 3};
        for (int what = 0; what < due.length; what++) {
            Check.same("about(" + what + ")", x.about(what), due[what]);
        }
        x.beats(9);
        Check.same("about(2) behind 9 beats", x.about(2), 9);
        Check.same("about(4) behind 9 beats", x.about(4), 3);
        Check.same("about(5) behind 9 beats", x.about(5), 0);
        Check.refused("about(-1)", x, ARGUMENT, () -> x.about(-1));
        Check.refused("about(7)", x, ARGUMENT, () -> x.about(7));
    }

    private static void promise7Shown() {
        LateCarries x = Lines.of("1+02-/222222222/0+++++");
        Check.same("shown(0)", x.shown(0), 11);
        Check.same("shown(1)", x.shown(1), 19682);
        Check.same("shown(2)", x.shown(2), 0);
        Check.refused("shown(-1)", x, INDEX, () -> x.shown(-1));
        Check.refused("shown(3)", x, INDEX, () -> x.shown(3));
    }

    private static void promise8Worth() {
        LateCarries x = Lines.of("1+02-/0-----/2+++++2+++++/0-1");
        Check.same("worth(0)", x.worth(0), 19);
        Check.same("worth(1)", x.worth(1), -5);
        Check.same("worth(2)", x.worth(2), 28);
        Check.same("worth(3)", x.worth(3), -2);
        Check.refused("worth(-1)", x, INDEX, () -> x.worth(-1));
        Check.refused("worth(4)", x, INDEX, () -> x.worth(4));
    }

    private static void promise9Counter() {
        LateCarries x = Lines.of("2+2/0->1-2+1/0");
        x.draw(1);
        x.draw(1);
        x.draw(2);
        int[][] due = {{2, 0, 0, 0, 1, 4}, {1, 1, 0, 2, 1, 0}, {3, 0, 0, 1, 3, 4}, {1, 0, 0, 0, 0, 0}};
        for (int c = 0; c < due.length; c++) {
            for (int what = 0; what < due[c].length; what++) {
                Check.same("counter(" + c + ", " + what + ")", x.counter(c, what), due[c][what]);
            }
        }
        x.beats(1);
        Check.same("a carry is spilled", x.counter(0, 2), 1);
        x.add(0, -9 + 1);
        x.add(0, -8);
        x.beats(9);
        Check.same("and borrows", x.counter(0, 2), -1);
        Check.refused("counter(4, 9)", x, INDEX, () -> x.counter(4, 9));
        Check.refused("counter(-1, 0)", x, INDEX, () -> x.counter(-1, 0));
        Check.refused("counter(0, 6)", x, ARGUMENT, () -> x.counter(0, 6));
        Check.refused("counter(0, -1)", x, ARGUMENT, () -> x.counter(0, -1));
    }

    private static void promise10Place() {
        LateCarries x = Lines.of("1+02--/2");
        Check.places("place", x, 0, 2, -2, 0, 0, 1, 1);
        Check.places("place", x, 1, 2, 0);
        Check.refused("place(2, 0, 0)", x, INDEX, () -> x.place(2, 0, 0));
        Check.refused("place(-1, 0, 0)", x, INDEX, () -> x.place(-1, 0, 0));
        Check.refused("place(0, 3, 0)", x, INDEX, () -> x.place(0, 3, 0));
        Check.refused("place(0, -1, 5)", x, INDEX, () -> x.place(0, -1, 5));
        Check.refused("place(1, 1, 0)", x, INDEX, () -> x.place(1, 1, 0));
        Check.refused("place(0, 0, 2)", x, ARGUMENT, () -> x.place(0, 0, 2));
        Check.refused("place(0, 0, -1)", x, ARGUMENT, () -> x.place(0, 0, -1));
    }

    private static void promise11Ticket() {
        LateCarries x = Lines.of("1-2/0");
        x.beats(4);
        x.add(0, -5);
        x.draw(0);
        x.draw(0);
        x.draw(1);
        x.beats(1);
        x.draw(1);
        x.draw(0);
        // 1-2 is 02 behind 4 beats, and -5 is a borrow at place 1 and two at place 0;
        // the two draws bring two carries to these, so that the beat only changes place 1, to 2
        long[][] due = {{0, 2, 4, 1, -5}, {0, 2, 4, 1, -4}, {1, 0, 4, 0, 0}, {1, 1, 5, 0, 0}, {0, 8, 5, 0, 0}};
        for (int k = 0; k < due.length; k++) {
            for (int what = 0; what <= 4; what++) {
                Check.same("ticket(" + k + ", " + what + ")", x.ticket(k, what), due[k][what]);
            }
        }
        Check.refused("ticket(5, 9)", x, INDEX, () -> x.ticket(5, 9));
        Check.refused("ticket(-1, 0)", x, INDEX, () -> x.ticket(-1, 0));
        Check.refused("ticket(0, 5)", x, ARGUMENT, () -> x.ticket(0, 5));
        Check.refused("ticket(0, -1)", x, ARGUMENT, () -> x.ticket(0, -1));
        x.resize(0, 1);
        Check.same("a ticket stays as it was", x.ticket(0, 1), 2);
    }

    private static void promise12Sorted() {
        LateCarries x = Lines.of("2/1/1/0");
        int[] drawn = {0, 2, 1, 2, 1, 3};
        for (int c : drawn) {
            x.draw(c);
        }
        int[] due = {5, 2, 4, 1, 3, 0};
        for (int k = 0; k < due.length; k++) {
            Check.same("sorted(" + k + ")", x.sorted(k), due[k]);
        }
        Check.refused("sorted(6)", x, INDEX, () -> x.sorted(6));
        Check.refused("sorted(-1)", x, INDEX, () -> x.sorted(-1));
        LateCarries none = new LateCarries();
        Check.refused("sorted(0) of none", none, INDEX, () -> none.sorted(0));
    }

    private static void promise13Ranked() {
        LateCarries x = Lines.of("1/2/1+++/2/0+");
        int[] shown = {1, 3, 0, 2, 4};
        int[] worths = {2, 1, 3, 0, 4};
        for (int k = 0; k < 5; k++) {
            Check.same("ranked(" + k + ", false)", x.ranked(k, false), shown[k]);
            Check.same("ranked(" + k + ", true)", x.ranked(k, true), worths[k]);
        }
        Check.refused("ranked(5, true)", x, INDEX, () -> x.ranked(5, true));
        Check.refused("ranked(-1, false)", x, INDEX, () -> x.ranked(-1, false));
    }

    private static void promise14Add() {
        LateCarries x = Lines.of("000000000/1/00");
        Check.same("add(0, 19682)", x.add(0, 19682), 18);
        Check.same("add(0, -19682)", x.add(0, -19682), 18);
        Check.same("they meet", x.about(5), 0);
        Check.same("add(0, 0)", x.add(0, 0), 0);
        Check.same("add(1, 0)", x.add(1, 0), 0);
        Check.same("add(1, -2)", x.add(1, -2), 2);
        Check.same("add(2, 5)", x.add(2, 5), 3);
        Check.places("add", x, 1, 1, -2);
        Check.places("add", x, 2, 0, 2, 0, 1);
        Check.same("add(2, 8)", x.add(2, 8), 4);
        Check.same("add(2, -7)", x.add(2, -7), 3);
        Check.places("add", x, 2, 0, 3, 0, 1);
        Check.refused("add(3, 19683)", x, INDEX, () -> x.add(3, 19683));
        Check.refused("add(-1, 0)", x, INDEX, () -> x.add(-1, 0));
        Check.refused("add(1, 19683)", x, ARGUMENT, () -> x.add(1, 19683));
        Check.refused("add(0, -19683)", x, ARGUMENT, () -> x.add(0, -19683));
        Check.refused("add(0, MIN)", x, ARGUMENT, () -> x.add(0, Integer.MIN_VALUE));
        Check.refused("add(1, 3)", x, STATE, () -> x.add(1, 3));
        Check.refused("add(1, -3)", x, STATE, () -> x.add(1, -3));
        Check.refused("add(2, 9)", x, STATE, () -> x.add(2, 9));
        Check.same("eight of them were actions", x.undo(), 7);
    }

    private static void promise15Draw() {
        LateCarries x = Lines.of("12/0-");
        Check.same("draw(0)", x.draw(0), 5);
        Check.same("draw(0) again", x.draw(0), 5);
        Check.same("draw(1)", x.draw(1), 0);
        Check.places("two carries wait", x, 0, 2, 2, 1, 0);
        Check.places("a carry meets a borrow", x, 1, 0, 0);
        Check.refused("draw(2)", x, INDEX, () -> x.draw(2));
        Check.refused("draw(-1)", x, INDEX, () -> x.draw(-1));
        LateCarries full = Lines.withTickets(39);
        Check.same("the 40th", full.draw(0), 0);
        Check.same("40 tickets", full.about(3), 40);
        Check.refused("the 41st", full, STATE, () -> full.draw(0));
        Check.refused("the 41st of no counter", full, INDEX, () -> full.draw(3));
        full.undo();
        Check.same("the 40th again", full.draw(1), 0);
    }

    private static void promise16Beats() {
        LateCarries x = Lines.of("22+/0-----/2+>2");
        Check.same("beats(1)", x.beats(1), 1);
        Check.places("all places at one time", x, 0, 0, 0, 2, 1);
        Check.places("borrows", x, 1, 2, -4);
        Check.same("a borrow is spilled", x.counter(1, 2), -1);
        Check.places("a carry goes to the next counter", x, 3, 2, 1);
        Check.same("and is not spilled", x.counter(2, 2), 0);
        Check.same("beats(1)", x.beats(1), 3);
        Check.places("the second beat", x, 0, 0, 0, 0, 0);
        Check.same("a carry is spilled", x.counter(0, 2), 1);
        Check.same("the last one spills", x.counter(3, 2), 1);
        Check.same("beats(99)", x.beats(99), 4);
        Check.same("beats so far", x.about(2), 101);
        Check.refused("beats(0)", x, ARGUMENT, () -> x.beats(0));
        Check.refused("beats(100)", x, ARGUMENT, () -> x.beats(100));
        beatsAtAPace();
    }

    private static void beatsAtAPace() {
        LateCarries x = Lines.of("0+++++/0-----/02+++++");
        x.setPace(3);
        Check.same("beats(1) at the pace 3", x.beats(1), 0);
        Check.places("carries at the pace 3", x, 0, 0, 2);
        Check.places("borrows at the pace 3", x, 1, 0, -2);
        Check.places("a carry waits above", x, 2, 2, 2, 0, 1);
        Check.same("spilled", x.counter(0, 2), 1);
        Check.same("spilled borrows", x.counter(1, 2), -1);
        x.beats(1);
        Check.places("the rest of the borrows", x, 1, 1, 0);
        Check.same("spilled borrows", x.counter(1, 2), -2);
        LateCarries fast = Lines.of("02+++++/0-----");
        fast.setPace(9);
        fast.beats(1);
        Check.places("7 is 1 and two carries", fast, 0, 1, 0, 0, 2);
        Check.places("-5 is 1 and two borrows", fast, 1, 1, 0);
        Check.same("two borrows are spilled", fast.counter(1, 2), -2);
    }

    private static void promise17SetPace() {
        LateCarries x = new LateCarries();
        Check.same("setPace(9)", x.setPace(9), 1);
        Check.same("setPace(1)", x.setPace(1), 9);
        Check.same("setPace(1) again", x.setPace(1), 1);
        Check.same("about(1)", x.about(1), 1);
        Check.refused("setPace(0)", x, ARGUMENT, () -> x.setPace(0));
        Check.refused("setPace(10)", x, ARGUMENT, () -> x.setPace(10));
        Check.same("three actions", x.undo(), 2);
    }

    private static void promise18Link() {
        LateCarries x = new LateCarries();
        Check.same("link(1, true)", x.link(1, true), 1);
        Check.same("link(0, true)", x.link(0, true), 2);
        Check.same("link(0, true) again", x.link(0, true), 2);
        Check.same("link(1, false)", x.link(1, false), 1);
        Check.same("linked", x.counter(0, 1), 1);
        Check.same("not linked", x.counter(1, 1), 0);
        Check.refused("link(2, true)", x, INDEX, () -> x.link(2, true));
        Check.refused("link(2, false)", x, INDEX, () -> x.link(2, false));
        Check.refused("link(-1, true)", x, INDEX, () -> x.link(-1, true));
        Check.refused("link(3, true)", x, INDEX, () -> x.link(3, true));
        Check.same("four actions", x.undo(), 3);
    }

    private static void promise19Resize() {
        LateCarries x = Lines.of("1+2-0++/0");
        Check.same("resize(0, 1)", x.resize(0, 1), 3);
        Check.places("the lowest stays", x, 0, 0, 2);
        Check.same("one place", x.counter(0, 0), 1);
        Check.same("nothing is spilled", x.counter(0, 2), 0);
        Check.same("resize(0, 9)", x.resize(0, 9), 1);
        Check.places("new ones are empty", x, 0, 0, 2, 0, 0, 0, 0, 0, 0, 0, 0, 0, 0, 0, 0, 0, 0, 0, 0);
        Check.same("resize(0, 9) again", x.resize(0, 9), 9);
        Check.refused("resize(2, 0)", x, INDEX, () -> x.resize(2, 0));
        Check.refused("resize(-1, 1)", x, INDEX, () -> x.resize(-1, 1));
        Check.refused("resize(0, 0)", x, ARGUMENT, () -> x.resize(0, 0));
        Check.refused("resize(0, 10)", x, ARGUMENT, () -> x.resize(0, 10));
        Check.same("three actions", x.undo(), 2);
    }

    private static void promise20Pour() {
        LateCarries x = Lines.of("1+2-0++/2+1>0--");
        Check.same("pour(0, 1)", x.pour(0, 1), 5);
        Check.places("c is empty", x, 0, 0, 0, 0, 0, 0, 0);
        Check.places("d", x, 1, 1, 2, 2, 2);
        Check.same("two are spilled by d, though it is linked", x.counter(1, 2), 2);
        Check.same("none by c", x.counter(0, 2), 0);
        Check.same("pour(2, 1)", x.pour(2, 1), -2);
        Check.places("d", x, 1, 1, 0, 2, 2);
        Check.same("pour(1, 2)", x.pour(1, 2), 1);
        Check.same("the upper place is spilled", x.counter(2, 2), 4);
        Check.refused("pour(0, 0)", x, ARGUMENT, () -> x.pour(0, 0));
        Check.refused("pour(3, 3)", x, INDEX, () -> x.pour(3, 3));
        Check.refused("pour(0, 3)", x, INDEX, () -> x.pour(0, 3));
        Check.refused("pour(-1, 0)", x, INDEX, () -> x.pour(-1, 0));
        Check.refused("pour(0, -1)", x, INDEX, () -> x.pour(0, -1));
        Check.same("three actions", x.undo(), 2);
    }

    private static void promise21Undo() {
        for (int n = 0; n <= 30; n++) {
            int kept = Math.min(n, 14);
            for (int taken = kept; taken > 0; taken -= 3) {
                LateCarries x = behind(n);
                for (int i = 1; i <= taken; i++) {
                    Check.same("undo()", x.undo(), kept - i);
                }
                Check.same("the state with " + taken + " of " + n + " taken back", Look.at(x), Look.at(behind(n - taken)));
            }
        }
        LateCarries y = behind(30);
        for (int i = 13; i >= 0; i--) {
            Check.same("undo()", y.undo(), i);
        }
        Check.refused("undo() of the 15th", y, STATE, y::undo);
        y.setPace(1);
        Check.same("undo() of one", y.undo(), 0);
        y.save(0);
        y.append('0');
        Check.refused("save and append are not actions", y, STATE, y::undo);
    }

    private static LateCarries behind(int n) {
        LateCarries x = Lines.of("2+>2+2-/0");
        Runnable[] acts = {
            () -> x.add(0, 2), () -> x.draw(1), () -> x.beats(2), () -> x.setPace(3), () -> x.link(0, false),
            () -> x.resize(1, 5), () -> x.pour(0, 1), () -> x.setPace(3), () -> x.link(1, true), () -> x.beats(1)};
        for (int i = 0; i < n; i++) {
            acts[i % acts.length].run();
        }
        return x;
    }

    private static void promise22Settled() {
        LateCarries x = Lines.of("2+>2>2/2++++/0");
        int[] due = {1, 2, 3, 4, 0};
        for (int c = 0; c < due.length; c++) {
            Check.same("settled(" + c + ")", x.settled(c), due[c]);
        }
        LateCarries y = Lines.of("0>0+/22+");
        Check.same("settled(0)", y.settled(0), 0);
        Check.same("settled(1)", y.settled(1), 1);
        Check.same("settled(2)", y.settled(2), 2);
        LateCarries z = Lines.of("0+++>0");
        Check.same("as long as the one ahead", z.settled(1), 4);
        LateCarries longer = Lines.of("0+++++>0");
        Check.same("no carry behind the third beat, but not settled", longer.settled(1), 5);
        longer.setPace(5);
        Check.same("at the pace 5", longer.settled(1), 2);
        Check.same("nothing is changed", longer.about(2), 0);
        LateCarries heap = Lines.of("0>0");
        for (int i = 0; i < 250; i++) {
            heap.add(0, 2);
        }
        Check.same("500 at the pace 1", heap.settled(0), 500);
        Check.same("the last carry comes behind beat 498", heap.settled(1), 500);
        Check.same("500 is 2 and 166 carries", heap.shownAtLast(0), 2);
        Check.same("166 is 1 and 55 carries", heap.shownAtLast(1), 1);
        Check.refused("settled(2)", longer, INDEX, () -> longer.settled(2));
        Check.refused("settled(-1)", longer, INDEX, () -> longer.settled(-1));
    }

    private static void promise23ShownAtLast() {
        LateCarries x = Lines.of("2+>2>1/2++++/0-0/1");
        int[] due = {0, 0, 2, 0, 6, 1};
        for (int c = 0; c < due.length; c++) {
            Check.same("shownAtLast(" + c + ")", x.shownAtLast(c), due[c]);
        }
        Check.refused("shownAtLast(6)", x, INDEX, () -> x.shownAtLast(6));
        Check.refused("shownAtLast(-1)", x, INDEX, () -> x.shownAtLast(-1));
    }

    private static void promise24WhenShown() {
        LateCarries x = Lines.of("22+>2");
        int[] due = {2, -1, -1, -1, -1, -1, 1, -1, 0};
        for (int v = 0; v < due.length; v++) {
            Check.same("whenShown(0, " + v + ")", x.whenShown(0, v), due[v]);
        }
        Check.same("whenShown(1, 0)", x.whenShown(1, 0), 3);
        Check.same("whenShown(1, 1)", x.whenShown(1, 1), -1);
        Check.same("whenShown(1, 2)", x.whenShown(1, 2), 0);
        Check.same("whenShown(1, 19682)", x.whenShown(1, 19682), -1);
        LateCarries y = Lines.of("2++++");
        Check.same("the first time of two", y.whenShown(0, 0), 1);
        Check.same("the last beat", Lines.of("2+++").whenShown(0, 2), 0);
        Check.same("settled already", Lines.of("2/2").whenShown(0, 2), 0);
        Check.refused("whenShown(2, -1)", x, INDEX, () -> x.whenShown(2, -1));
        Check.refused("whenShown(-1, 0)", x, INDEX, () -> x.whenShown(-1, 0));
        Check.refused("whenShown(0, -1)", x, ARGUMENT, () -> x.whenShown(0, -1));
        Check.refused("whenShown(0, 19683)", x, ARGUMENT, () -> x.whenShown(0, 19683));
    }

    private static void promise25LeastPace() {
        LateCarries x = Lines.of("0+++++/0--");
        int[] due = {-1, 5, 3, 2, 2, 1};
        for (int n = 0; n < due.length; n++) {
            Check.same("leastPace(" + n + ")", x.leastPace(n), due[n]);
        }
        Check.same("leastPace(99)", x.leastPace(99), 1);
        x.setPace(9);
        Check.same("whatever the pace is", x.leastPace(5), 1);
        Check.same("the pace stays", x.about(1), 9);
        Check.same("leastPace(0)", Lines.of("0/2").leastPace(0), 1);
        LateCarries nine = Lines.of("0+++++");
        nine.add(0, 2);
        nine.add(0, 2);
        Check.same("9 of them", nine.leastPace(1), 9);
        nine.add(0, 1);
        Check.same("10 of them", nine.leastPace(1), -1);
        Check.refused("leastPace(-1)", x, ARGUMENT, () -> x.leastPace(-1));
        Check.refused("leastPace(100)", x, ARGUMENT, () -> x.leastPace(100));
    }

    private static void promise26Slowest() {
        Check.same("slowest(0) of a new one", new LateCarries().slowest(0), 2);
        Check.same("slowest(0) of 1 place", Lines.of("2").slowest(0), 2);
        LateCarries x = Lines.of("010/0100/02000/01/0/10");
        x.setPace(9);
        int[] due = {6, 18, 1, 2, 1, 1};
        for (int c = 0; c < due.length; c++) {
            Check.same("slowest(" + c + ")", x.slowest(c), due[c]);
        }
        Check.same("the last one of 8", Lines.of("0+1").slowest(0), 8);
        Check.same("with a counter ahead that is slower", Lines.of("0+++++>0").slowest(1), 1);
        Check.refused("slowest(6)", x, INDEX, () -> x.slowest(6));
        Check.refused("slowest(-1)", x, INDEX, () -> x.slowest(-1));
    }

    private static void promise27Doubles() {
        LateCarries x = new LateCarries();
        // shown at the draws: 0 1 2 0 4 5 3 7 8
        int[] due = {0, 0, 0, 1, 1, 1, 1, 1, 1};
        for (int n = 1; n <= 9; n++) {
            Check.same("doubles(0, " + n + ")", x.doubles(0, n), due[n - 1]);
        }
        x.draw(0);
        x.draw(1);
        x.draw(1);
        Check.same("with those that there are", x.doubles(2, 1), 1);
        Check.same("and with this one", x.doubles(1, 1), 3);
        LateCarries full = Lines.withTickets(40);
        Check.same("behind 40 tickets", full.doubles(0, 1), 247 + 14);
        full.doubles(0, 9);
        Check.same("the tickets stay", full.about(3), 40);
        Check.refused("doubles(3, 0)", x, INDEX, () -> x.doubles(3, 0));
        Check.refused("doubles(-1, 1)", x, INDEX, () -> x.doubles(-1, 1));
        Check.refused("doubles(0, 0)", x, ARGUMENT, () -> x.doubles(0, 0));
        Check.refused("doubles(0, 10)", x, ARGUMENT, () -> x.doubles(0, 10));
    }

    private static void script(Supplier<LateCarries> made, int n, long script, int due) {
        LateCarries x = made.get();
        String ahead = Look.at(x);
        Check.same("runScript(" + n + ", " + script + ")", x.runScript(n, script), due);
        Check.same("the state behind a script", Look.at(x), ahead);
    }

    private static void promise28RunScript() {
        Supplier<LateCarries> x = () -> Lines.of("0000/12/2+>0");
        long[] good = {
            100000, 100080, 110008, 130002, 200080, 230002, 300000, 330000, 400001, 400099, 500001, 500009,
            600000, 600001, 620001, 620000, 700000, 710005, 720002, 800001, 820000, 910000, 922000 - 2000, 923000};
        for (long command : good) {
            script(x, 1, command, -1);
        }
        long[] bad = {
            0, 1, 99999, 100081, 110009, 130003, 140000, 190000, 200081, 230003, 240000, 300001, 340000, 301000, 400000,
            400100, 401001, 410001, 500000, 500010, 510001, 501001, 600002, 600011, 601000, 630000, 640000, 690001,
            820002, 700001, 740000, 790000, 800000, 800002, 820001, 800011, 801001, 840000, 840001, 900000, 901000, 904000,
            940000, 910001, 910010, 910100, 990000, 999999};
        for (long command : bad) {
            script(x, 1, command, 0);
        }
        script(x, 2, 100005700000L, -1);
        script(x, 2, 100005700005L, 1);
        script(x, 3, 100005400002700005L, -1);
        script(x, 3, 100005400001700004L, -1);
        script(x, 3, 200001400004700080L, -1);
        script(x, 3, 500002100002400001L, -1);
        script(x, 3, 400001400001830001L, -1);
        script(x, 3, 620000400099830001L, -1);
        script(x, 2, 5L, 0);
        script(x, 3, 999999999999999999L, 0);
        script(x, 3, 300000999999300000L, 1);
        scriptChanges();
        scriptRefused(x.get());
    }

    private static void scriptChanges() {
        Supplier<LateCarries> x = () -> Lines.of("0++/2+/0/1+/2");
        script(x, 3, 500002400001700002L, -1);
        script(x, 3, 500001400001700002L, 2);
        script(x, 3, 610001400002720001L, -1);
        script(x, 3, 610000400002720001L, 2);
        script(x, 3, 300000400003700000L, -1);
        script(x, 2, 100001904000L, -1);
        script(x, 1, 934000L, 0);
        script(x, 1, 903000L, 0);
        script(x, 1, 930000L, 0);
        script(x, 1, 913000L, -1);
        Supplier<LateCarries> linked = () -> Lines.of("2+>0");
        script(linked, 3, 600000400002710001L, 2);
        script(linked, 3, 600000400002710000L, -1);
        script(linked, 3, 600001400002710001L, -1);
        script(linked, 1, 901000L, -1);
    }

    private static void scriptRefused(LateCarries x) {
        Check.refused("runScript(0, 0)", x, ARGUMENT, () -> x.runScript(0, 0));
        Check.refused("runScript(4, 0)", x, ARGUMENT, () -> x.runScript(4, 0));
        Check.refused("runScript(1, -1)", x, ARGUMENT, () -> x.runScript(1, -1));
        Check.refused("runScript(1, 1000000)", x, ARGUMENT, () -> x.runScript(1, 1000000));
        Check.refused("runScript(2, 10^12)", x, ARGUMENT, () -> x.runScript(2, 1000000000000L));
        Check.refused("runScript(3, 10^18)", x, ARGUMENT, () -> x.runScript(3, 1000000000000000000L));
        Check.refused("runScript(3, MAX)", x, ARGUMENT, () -> x.runScript(3, Long.MAX_VALUE));
        Check.refused("runScript(3, MIN)", x, ARGUMENT, () -> x.runScript(3, Long.MIN_VALUE));
        Supplier<LateCarries> full = () -> Lines.withTickets(39);
        script(full, 1, 300000, -1);
        script(full, 2, 300000300000L, 1);
        script(() -> Lines.of("0"), 1, 600001, 0);
    }

    private static void promise29Simulate() {
        String[] texts = {"0000/0000/0000", "2+2-1", "0+>12--/222>0>1/2", "012012012>0+++++"};
        for (String text : texts) {
            for (int m : new int[] {1, 2, 7, 50, 99}) {
                for (long seed = -3; seed <= 3; seed++) {
                    LateCarries x = Lines.of(text);
                    x.draw(0);
                    x.draw(0);
                    String ahead = Look.at(x);
                    int got = x.simulate(seed, m);
                    Check.same("the state behind a simulation", Look.at(x), ahead);
                    Check.same("simulate(" + seed + ", " + m + ") of " + text, got, Lines.played(x, seed, m));
                }
            }
        }
        LateCarries x = new LateCarries();
        Check.refused("simulate(0, 0)", x, ARGUMENT, () -> x.simulate(0, 0));
        Check.refused("simulate(0, 100)", x, ARGUMENT, () -> x.simulate(0, 100));
    }

    private static void promise30Save() {
        LateCarries x = Lines.of("12+");
        Check.same("save(0)", x.save(0), 0);
        x.beats(7);
        Check.same("save(1)", x.save(1), 7);
        Check.same("save is no action", x.undo(), 0);
        Check.same("restore(1)", x.restore(1), 7);
        Check.same("save(0) over it", x.save(0), 7);
        x.beats(1);
        Check.same("restore(0)", x.restore(0), 7);
        Check.refused("save(-1)", x, INDEX, () -> x.save(-1));
        Check.refused("save(2)", x, INDEX, () -> x.save(2));
    }

    private static void promise31Restore() {
        LateCarries x = Lines.of("12+>0/2-");
        x.draw(0);
        x.beats(1);
        String saved = Look.at(x);
        x.save(1);
        x.setPace(5);
        x.link(0, false);
        x.resize(2, 4);
        x.draw(2);
        x.pour(0, 2);
        x.beats(3);
        String later = Look.at(x);
        Check.refused("restore(0)", x, STATE, () -> x.restore(0));
        Check.same("a refused restore forgets nothing", x.undo(), 7);
        x.beats(3);
        Check.same("later again", Look.at(x), later);
        Check.same("restore(1)", x.restore(1), 1);
        Check.same("the state that was saved", Look.at(x), saved);
        Check.refused("undo() behind restore", x, STATE, x::undo);
        x.draw(1);
        x.beats(50);
        Check.same("restore(1) again", x.restore(1), 1);
        Check.same("the slot keeps it", Look.at(x), saved);
        Check.refused("restore(-1)", x, INDEX, () -> x.restore(-1));
        Check.refused("restore(2)", x, INDEX, () -> x.restore(2));
    }
}
