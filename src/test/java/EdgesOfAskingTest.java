import java.util.function.Supplier;

/** The boundary cases of promises 22 to 27, of what would be, and of 30 and 31, the save slots. */
public final class EdgesOfAskingTest {
    private static final Class<IndexOutOfBoundsException> INDEX = IndexOutOfBoundsException.class;
    private static final Class<IllegalArgumentException> ARGUMENT = IllegalArgumentException.class;
    private static final Class<IllegalStateException> STATE = IllegalStateException.class;
    private static final Supplier<LateCarries> BUSY = () -> Lines.busy("2+1>0--/12");
    private static final int[] NO_COUNTER = {-1, 3, 6, Integer.MIN_VALUE, Integer.MAX_VALUE};

    private EdgesOfAskingTest() {
    }

    public static void main(String[] args) {
        promise22SettledNow();
        promise22SettledWithThoseAhead();
        promise22SettledLate();
        promise23ShownAtLast();
        promise24WhenShownRange();
        promise24WhenShownTimes();
        promise25LeastPaceRange();
        promise25LeastPaceOfManyThatWait();
        promise26SlowestOfOneTwoAndMorePlaces();
        promise26SlowestOfSeveral();
        promise27DoublesRange();
        promise27DoublesWithTheTicketsThatThereAre();
        promise30Save();
        promise31RestoreRefused();
        promise31Restore();
        Check.finish("EdgesOfAskingTest");
    }

    /** A line of one place at which so much waits. */
    private static LateCarries heap(int n) {
        LateCarries x = Lines.of("0");
        for (int i = 0; i < n / 2; i++) {
            x.add(0, 2);
        }
        if (n % 2 == 1) {
            x.add(0, 1);
        }
        return x;
    }

    private static void settled(String line, int... due) {
        for (int c = 0; c < due.length; c++) {
            int which = c;
            Check.asks("settled(" + c + ") of " + line, () -> Lines.of(line), due[c], x -> x.settled(which));
        }
    }

    // ---- promise 22

    /** "Returns behind how many beats, 0 for now" */
    private static void promise22SettledNow() {
        for (int c : NO_COUNTER) {
            Check.refusal("settled(" + c + ")", BUSY, INDEX, x -> x.settled(c));
        }
        settled("222222222", 0);
        settled("0+", 1);
        settled("0-", 1);
        settled("2+", 1);
        settled("22+", 2);
        settled("0-0+", 1);
        settled("2+0+", 1);
        settled("00-", 2);
        settled("000000000-", 9);
        settled("222222222+", 9);
        settled("0+++++/0-----/0", 5, 5, 0);
        LateCarries x = Lines.of("0+++++");
        x.setPace(4);
        Check.same("one more than the pace", x.settled(0), 2);
        x.setPace(5);
        Check.same("as many as the pace", x.settled(0), 1);
        x.setPace(9);
        Check.same("fewer than the pace", x.settled(0), 1);
        x.beats(1);
        Check.same("behind the beat", x.settled(0), 0);
    }

    /** "and so are all counters ahead of it from which links lead to it, one behind the other, for the first time" */
    private static void promise22SettledWithThoseAhead() {
        settled("0++/0", 2, 0);
        settled("0++>0", 2, 2);
        settled("0+>0+++", 1, 3);
        settled("0>0+++", 0, 3);
        settled("0+++++>0/0", 5, 5, 0);
        settled("0+++++/0>0", 5, 0, 0);
        settled("0+++++/0>0+", 5, 0, 1);
        settled("0+++++>0>0", 5, 5, 5);
        settled("2+>2>2>2>2>2", 1, 2, 3, 4, 5, 6);
        settled("2+>2>2/2>2>2", 1, 2, 3, 0, 0, 0);
        settled("0++++>0+", 4, 4);
        settled("0>0>0>0>0>0+", 0, 0, 0, 0, 0, 1);
        // the second one is settled behind beat 1, but not any more behind beat 3
        settled("0+++>0+", 3, 4);
    }

    /** The longest that the calls of a test bring about is far above 99 beats. */
    private static void promise22SettledLate() {
        Check.same("settled(0) with 99", heap(99).settled(0), 99);
        Check.same("settled(0) with 100", heap(100).settled(0), 100);
        LateCarries x = heap(1000);
        Check.same("settled(0) with 1000", x.settled(0), 1000);
        x.setPace(9);
        Check.same("at the pace 9", x.settled(0), 112);
    }

    // ---- promise 23

    /** "Returns what it shows when all counters are settled." */
    private static void promise23ShownAtLast() {
        for (int c : NO_COUNTER) {
            Check.refusal("shownAtLast(" + c + ")", BUSY, INDEX, x -> x.shownAtLast(c));
        }
        shownAtLast("0", 0);
        shownAtLast("222222222", 19682);
        shownAtLast("222222222+", 0);
        shownAtLast("000000000-", 19682);
        shownAtLast("0-/0", 2, 0);
        shownAtLast("0->0", 2, 2);
        shownAtLast("0->0>0/0", 2, 2, 2, 0);
        shownAtLast("2+/2", 0, 2);
        shownAtLast("2+>2", 0, 0);
        shownAtLast("2+>2>2>2>2>2", 0, 0, 0, 0, 0, 0);
        shownAtLast("2+>2>2>2>1>2", 0, 0, 0, 0, 2, 2);
        shownAtLast("0+++++>0/0---", 2, 1, 0);
        for (int n : new int[] {99, 100, 1000}) {
            Check.same("shownAtLast(0) with " + n, heap(n).shownAtLast(0), n % 3);
        }
    }

    private static void shownAtLast(String line, int... due) {
        for (int c = 0; c < due.length; c++) {
            int which = c;
            Check.asks("shownAtLast(" + c + ") of " + line, () -> Lines.of(line), due[c], x -> x.shownAtLast(which));
            LateCarries fast = Lines.of(line);
            fast.setPace(9);
            Check.same("at whatever pace", fast.shownAtLast(c), due[c]);
        }
    }

    // ---- promise 24

    /** "v: 0 to 19682" */
    private static void promise24WhenShownRange() {
        for (int c : NO_COUNTER) {
            Check.refusal("whenShown(" + c + ", 0)", BUSY, INDEX, x -> x.whenShown(c, 0));
            Check.refusal("whenShown(" + c + ", -1)", BUSY, INDEX, x -> x.whenShown(c, -1));
            Check.refusal("whenShown(" + c + ", 19683)", BUSY, INDEX, x -> x.whenShown(c, 19683));
        }
        for (int v : new int[] {-1, 19683, Integer.MIN_VALUE, Integer.MAX_VALUE}) {
            Check.refusal("whenShown(0, " + v + ")", BUSY, ARGUMENT, x -> x.whenShown(0, v));
        }
        whenShown("0", 0, 0, 0);
        whenShown("0", 0, 19682, -1);
        whenShown("222222222", 0, 19682, 0);
        whenShown("222222222", 0, 0, -1);
        whenShown("222222221+", 0, 19682, 1);
        whenShown("222222222+", 0, 0, 9);
        whenShown("000000000-", 0, 19682, 9);
    }

    /** "Returns behind how many beats, 0 for now, [...] for the first time; NONE if it never does until [...]" */
    private static void promise24WhenShownTimes() {
        whenShown("0++++", 0, 0, 0);
        whenShown("0++++", 0, 1, 1);
        whenShown("0++++", 0, 2, 2);
        whenShown("1++++", 0, 0, 2);
        whenShown("0++", 0, 2, 2);
        whenShown("0+", 0, 2, -1);
        whenShown("2++", 0, 1, 2);
        whenShown("2+", 0, 1, -1);
        whenShown("0--", 0, 1, 2);
        whenShown("2+/2", 1, 0, -1);
        whenShown("2+>2", 1, 0, 2);
        whenShown("2+>2", 1, 1, -1);
        whenShown("2+>2>2>2>2>2", 5, 0, 6);
        whenShown("2+>2>2>2>2>2", 5, 2, 0);
        // c itself is settled at first, and settled once more between two carries
        whenShown("1+++++>0", 1, 1, 3);
        whenShown("1+++++>0", 1, 2, 6);
        whenShown("1+++++>0", 1, 0, 0);
        // others that are at work do not let it show more
        whenShown("0+++++/1", 1, 2, -1);
        whenShown("1>0+++++", 0, 2, -1);
        LateCarries x = Lines.of("0+++++");
        x.setPace(3);
        Check.same("with a pace it passes over 1", x.whenShown(0, 1), -1);
        Check.same("and comes to 2 with the last two", x.whenShown(0, 2), 2);
        // 1101001 in the base of three: the carry of beat 999 comes to the fourth place in beat 1002
        LateCarries late = heap(1000);
        late.resize(0, 9);
        Check.same("a thousand at last", late.whenShown(0, 1000), 1002);
    }

    private static void whenShown(String line, int c, int v, int due) {
        Check.asks("whenShown(" + c + ", " + v + ") of " + line, () -> Lines.of(line), due, x -> x.whenShown(c, v));
    }

    // ---- promise 25

    /** "n: 0 to 99" */
    private static void promise25LeastPaceRange() {
        for (int n : new int[] {-1, 100, Integer.MIN_VALUE, Integer.MAX_VALUE}) {
            Check.refusal("leastPace(" + n + ")", BUSY, ARGUMENT, x -> x.leastPace(n));
        }
        Check.asks("leastPace(0) of what is settled", () -> Lines.of("0/222222222/1"), 1, x -> x.leastPace(0));
        Check.asks("leastPace(99) of what is settled", () -> Lines.of("0/222222222/1"), 1, x -> x.leastPace(99));
        Check.asks("leastPace(0) with a carry", () -> Lines.of("0/0/0/0/0/0+"), -1, x -> x.leastPace(0));
        Check.asks("leastPace(0) with a borrow", () -> Lines.of("0-/0/0/0/0/0"), -1, x -> x.leastPace(0));
        Check.asks("leastPace(1) with a carry", () -> Lines.of("0/0/0/0/0/0+"), 1, x -> x.leastPace(1));
        Check.asks("leastPace(5) of six", () -> Lines.of("2+>2>2>2>2>2"), -1, x -> x.leastPace(5));
        Check.asks("leastPace(6) of six", () -> Lines.of("2+>2>2>2>2>2"), 1, x -> x.leastPace(6));
        Check.asks("leastPace(2)", () -> Lines.of("0+++++"), 3, x -> x.leastPace(2));
        LateCarries x = Lines.of("0+++++");
        x.setPace(9);
        Check.same("the pace that there is plays no part", x.leastPace(4), 2);
        Check.same("and stays", x.about(1), 9);
    }

    /** "the smallest pace with which all counters are settled behind n beats; NONE if there is none": pace times n. */
    private static void promise25LeastPaceOfManyThatWait() {
        for (int pace = 1; pace <= 9; pace++) {
            int next = pace < 9 ? pace + 1 : -1;
            LateCarries few = heap(pace);
            Check.same("leastPace(1) with " + pace, few.leastPace(1), pace);
            few.add(0, 1);
            Check.same("leastPace(1) with " + (pace + 1), few.leastPace(1), next);
            LateCarries many = heap(99 * pace);
            Check.same("leastPace(99) with " + 99 * pace, many.leastPace(99), pace);
            many.add(0, 1);
            Check.same("leastPace(99) with one more", many.leastPace(99), next);
        }
    }

    // ---- promise 26

    /** "the number from 1 to 26 (to 8 for a counter with 2 places, to 2 for one with 1 place)" */
    private static void promise26SlowestOfOneTwoAndMorePlaces() {
        for (int c : NO_COUNTER) {
            Check.refusal("slowest(" + c + ")", BUSY, INDEX, x -> x.slowest(c));
        }
        slowest("0", 0, 2);
        slowest("0--", 0, 1);
        // place 1 is settled behind 5 beats with 8, behind 4 at the most with less
        slowest("0+1", 0, 8);
        // each carry goes up, and a third one at place 2, which comes with 26 alone, goes one further
        slowest("0++01", 0, 26);
        slowest("0001", 0, 26);
        slowest("00001", 0, 26);
        slowest("000000001", 0, 26);
        slowest("0/0/0/0/0/000000001", 5, 26);
        // all of them take away from the borrows alike, and nothing, or a carry at a place above, would not
        slowest("0-----0-", 0, 1);
        slowest("0-----00-", 0, 1);
        slowest("0+++++000", 0, 1);
        LateCarries more = Lines.of("00001");
        more.add(0, 80);
        LateCarries most = Lines.of("00001");
        most.add(0, 26);
        Check.same("80 would take longer than 26", more.settled(0) > most.settled(0) ? 1 : 0, 1);
        LateCarries sized = Lines.of("000000001");
        // with 3 places the third carry at place 2 is spilled, so that 26 takes no longer than 8
        int[] due = {2, 2, 8, 26, 26, 26, 26, 26, 26};
        for (int n = 1; n <= 9; n++) {
            sized.resize(0, n);
            Check.same("slowest(0) of " + n + " places", sized.slowest(0), due[n - 1]);
        }
    }

    /** "of several the smallest one", "as settled() tells" */
    private static void promise26SlowestOfSeveral() {
        slowest("0+++++>0", 1, 1);
        slowest("0+++++>0", 0, 2);
        slowest("0+++++/0", 1, 2);
        slowest("2+>2>2>2>2>2", 5, 1);
        slowest("21-", 0, 6);
        LateCarries x = Lines.of("000/00/0");
        x.setPace(9);
        for (int c = 0; c < 3; c++) {
            Check.same("all of them take a beat", x.slowest(c), 1);
        }
        LateCarries down = Lines.of("0----0----0----");
        down.setPace(2);
        // 6 and others that end with the digits 20 let a borrow come to place 2 behind the third beat
        Check.same("the smallest of those that take 4 beats", down.slowest(0), 6);
    }

    private static void slowest(String line, int c, int due) {
        Check.asks("slowest(" + c + ") of " + line, () -> Lines.of(line), due, x -> x.slowest(c));
    }

    // ---- promise 27

    /** "n: 1 to 9" */
    private static void promise27DoublesRange() {
        for (int n : new int[] {0, -1, 10, Integer.MIN_VALUE, Integer.MAX_VALUE}) {
            Check.refusal("doubles(0, " + n + ")", BUSY, ARGUMENT, x -> x.doubles(0, n));
        }
        for (int c : NO_COUNTER) {
            Check.refusal("doubles(" + c + ", 1)", BUSY, INDEX, x -> x.doubles(c, 1));
            Check.refusal("doubles(" + c + ", 0)", BUSY, INDEX, x -> x.doubles(c, 0));
            Check.refusal("doubles(" + c + ", 10)", BUSY, INDEX, x -> x.doubles(c, 10));
        }
        // one place shows 0 1 2 0 1 2 0 1 2, each number three times with 9 of them
        int[] due = {0, 0, 0, 1, 2, 3, 5, 7, 9};
        for (int n = 1; n <= 9; n++) {
            int drawn = n;
            Check.asks("doubles(0, " + n + ")", () -> Lines.of("0"), due[n - 1], x -> x.doubles(0, drawn));
            Check.asks("doubles(5, " + n + ")", () -> Lines.of("0/0/0/0/0/0"), due[n - 1], x -> x.doubles(5, drawn));
        }
        // a borrow waits for each of the carries at first
        Check.asks("it goes on showing 0", () -> Lines.of("0-"), 1, x -> x.doubles(0, 2));
        Check.asks("and then 1", () -> Lines.of("0-"), 1, x -> x.doubles(0, 3));
    }

    /** "how many doubles there would be in all [...] (whether 40 were drawn or not)" */
    private static void promise27DoublesWithTheTicketsThatThereAre() {
        int[] others = {0, 1, 2, 0, 1, 2, 0, 1, 2};
        for (int tickets : new int[] {0, 1, 30, 31, 32, 39, 40}) {
            Supplier<LateCarries> made = () -> {
                LateCarries x = Lines.of("0/0/2");
                for (int i = 0; i < tickets; i++) {
                    x.draw(0);
                }
                return x;
            };
            int ahead = tickets * (tickets - 1) / 2;
            Check.asks("doubles(0, 1) behind " + tickets, made, ahead + tickets, x -> x.doubles(0, 1));
            int due = ahead;
            for (int n = 1; n <= 9; n++) {
                int drawn = n;
                due += (n - 1) / 3;
                Check.asks("doubles(1, " + n + ") behind " + tickets, made, due, x -> x.doubles(1, drawn));
            }
            int same = ahead;
            int[] seen = {tickets, 0, 0};
            for (int n = 1; n <= 9; n++) {
                int drawn = n;
                same += seen[others[n - 1]];
                seen[others[n - 1]]++;
                Check.asks("doubles(0, " + n + ") behind " + tickets, made, same, x -> x.doubles(0, drawn));
            }
        }
    }

    // ---- promise 30

    /** "slot: 0 or 1" */
    private static void promise30Save() {
        for (int slot : new int[] {-1, 2, Integer.MIN_VALUE, Integer.MAX_VALUE}) {
            Check.refusal("save(" + slot + ")", BUSY, INDEX, x -> x.save(slot));
        }
        LateCarries x = Lines.of("0/2+++++");
        Check.same("save(0) ahead of a beat", x.save(0), 0);
        x.beats(99);
        Check.same("save(1) behind 99", x.save(1), 99);
        x.beats(2);
        Check.same("save(1) over it", x.save(1), 101);
        Check.same("save is no action", x.undo(), 1);
        Check.same("save changes nothing", x.about(2), 99);
        Check.same("the slot 0 keeps its own", x.restore(0), 0);
        Check.same("the slot 1 keeps the later one", x.restore(1), 101);
        Supplier<LateCarries> saved = () -> {
            LateCarries y = BUSY.get();
            y.save(0);
            return y;
        };
        Check.asks("save(0) twice", saved, 2, y -> y.save(0));
    }

    // ---- promise 31

    /** "if there is no such save slot", "if nothing has been saved in it since the last load" */
    private static void promise31RestoreRefused() {
        Supplier<LateCarries> loaded = () -> {
            LateCarries x = BUSY.get();
            Lines.type(x, "1");
            x.load();
            x.setPace(3);
            return x;
        };
        Supplier<LateCarries> half = () -> {
            LateCarries x = loaded.get();
            x.save(1);
            x.setPace(4);
            return x;
        };
        for (int slot : new int[] {-1, 2, Integer.MIN_VALUE, Integer.MAX_VALUE}) {
            Check.refusal("restore(" + slot + ")", BUSY, INDEX, x -> x.restore(slot));
            Check.refusal("restore(" + slot + ") of empty ones", loaded, INDEX, x -> x.restore(slot));
        }
        Check.refusal("restore(0) behind a load", loaded, STATE, x -> x.restore(0));
        Check.refusal("restore(1) behind a load", loaded, STATE, x -> x.restore(1));
        Check.refusal("restore(0) with the other one filled", half, STATE, x -> x.restore(0));
        LateCarries other = loaded.get();
        other.save(0);
        Check.refused("restore(1) with the other one filled", other, STATE, () -> other.restore(1));
        LateCarries failed = BUSY.get();
        Check.refused("a load that is refused", failed, STATE, failed::load);
        Check.same("it empties no slot", failed.restore(0), 0);
        Check.same("nor the other", failed.restore(1), 2);
    }

    /** "Replaces the state [...] and forgets all remembered states. The save slot keeps it." */
    private static void promise31Restore() {
        LateCarries x = Lines.of("12+>2/0-/1");
        x.draw(0);
        x.draw(2);
        x.beats(1);
        x.setPace(4);
        String first = Look.at(x);
        Check.same("save(0)", x.save(0), 1);
        x.link(0, false);
        x.resize(1, 9);
        x.draw(1);
        x.pour(0, 3);
        x.beats(7);
        x.setPace(9);
        String second = Look.at(x);
        Check.same("save(1)", x.save(1), 8);
        for (int i = 0; i < 2; i++) {
            Check.same("restore(0)", x.restore(0), 1);
            Check.same("the first state", Look.at(x), first);
            Check.same("undo() behind it", Look.answer(x::undo), "throws.IllegalStateException");
            x.draw(3);
            x.beats(1);
            Check.same("what is done then is remembered", x.undo(), 1);
            Check.same("restore(1)", x.restore(1), 8);
            Check.same("the second state", Look.at(x), second);
            Check.same("undo() behind it", Look.answer(x::undo), "throws.IllegalStateException");
        }
        Lines.type(x, "2+");
        x.restore(0);
        Check.same("the text is no part of it", x.clearText(), 2);
        promise31RestoreOfOtherTickets();
    }

    /** Each slot has its own first ticket, neither of which is a later one of the other's tickets. */
    private static void promise31RestoreOfOtherTickets() {
        LateCarries x = Lines.of("0++/2-");
        x.beats(1);
        x.draw(0);
        x.save(0);
        x.undo();
        x.undo();
        x.draw(1);
        x.save(1);
        x.undo();
        x.setPace(9);
        x.beats(9);
        x.draw(0);
        long[][] due = {{0, 1, 1, 0, 1}, {1, 2, 0, 0, -1}, {0, 2, 9, 0, 0}};
        for (int what = 0; what <= 4; what++) {
            Check.same("now: ticket(0, " + what + ")", x.ticket(0, what), due[2][what]);
        }
        for (int i = 0; i < 4; i++) {
            x.restore(i % 2);
            for (int what = 0; what <= 4; what++) {
                Check.same("restored: ticket(0, " + what + ")", x.ticket(0, what), due[i % 2][what]);
            }
        }
    }
}
