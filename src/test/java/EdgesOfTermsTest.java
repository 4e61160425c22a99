import java.util.function.Supplier;

/**
 * The boundary cases that the document's section "Terms" names, each sentence with a test of its own,
 * headed by its words. What single methods refuse stands in the tests of their promises.
 */
public final class EdgesOfTermsTest {
    private static final Class<IndexOutOfBoundsException> INDEX = IndexOutOfBoundsException.class;
    private static final Class<IllegalArgumentException> ARGUMENT = IllegalArgumentException.class;
    private static final Class<IllegalStateException> STATE = IllegalStateException.class;
    private static final String FULL_LINE = "2+++++1-----0+++++2-----1+++++0-----2+++++1-----0+++++/2-----1+++++0-----2+++++1-----0+++++2-----1++";

    private EdgesOfTermsTest() {
    }

    public static void main(String[] args) {
        counters();
        aBeat();
        tickets();
        text();
        actionsAndUndo();
        exceptions();
        Check.finish("EdgesOfTermsTest");
    }

    // ---- COUNTERS

    private static void counters() {
        oneToSixCountersNumberedFromZero();
        atFirstThreeWithFourPlaces();
        oneToNinePlacesNumberedFromZero();
        digitsAndWaitingNumbersAtFirst();
        waitingAboveAndBelowZero();
        showsTheNumberOfItsDigits();
        worthBelowZeroAndMoreThanItsPlacesShow();
        settledWithNoWaitingNumberOtherThanZero();
        atFirstNoneIsLinked();
        theLastOneCannotBeLinked();
    }

    /** "There are 1 to 6 counters in a line, numbered from 0" */
    private static void oneToSixCountersNumberedFromZero() {
        String[] lines = {"0", "0/1", "0/1/2", "0/1/2/0", "0/1/2/0/1", "0/1/2/0/1/2"};
        for (int n = 1; n <= 6; n++) {
            LateCarries x = Lines.of(lines[n - 1]);
            Check.same("the counters of " + lines[n - 1], x.about(0), n);
            for (int c = 0; c < n; c++) {
                Check.same("shown(" + c + ") of " + n, x.shown(c), c % 3);
            }
            noSuchCounter(lines[n - 1], n);
        }
        LateCarries seven = new LateCarries();
        Lines.type(seven, "0/1/2/0/1/2/0");
        Check.same("errorPosition() of seven counters", seven.errorPosition(), 11);
        Check.refused("load() of seven counters", seven, STATE, seven::load);
    }

    /** Every method that takes a counter, with the first numbers that are none and the furthest ones. */
    private static void noSuchCounter(String line, int n) {
        Supplier<LateCarries> made = () -> Lines.busy(line);
        for (int c : new int[] {n, -1, n + 1, Integer.MAX_VALUE, Integer.MIN_VALUE}) {
            String told = "(" + c + ") of " + n + " counters";
            Check.refusal("shown" + told, made, INDEX, x -> x.shown(c));
            Check.refusal("worth" + told, made, INDEX, x -> x.worth(c));
            Check.refusal("counter" + told, made, INDEX, x -> x.counter(c, 0));
            Check.refusal("place" + told, made, INDEX, x -> x.place(c, 0, 0));
            Check.refusal("ranked" + told, made, INDEX, x -> x.ranked(c, true));
            Check.refusal("ranked" + told, made, INDEX, x -> x.ranked(c, false));
            Check.refusal("add" + told, made, INDEX, x -> x.add(c, 1));
            Check.refusal("draw" + told, made, INDEX, x -> x.draw(c));
            Check.refusal("link" + told, made, INDEX, x -> x.link(c, true));
            Check.refusal("link false" + told, made, INDEX, x -> x.link(c, false));
            Check.refusal("resize" + told, made, INDEX, x -> x.resize(c, 3));
            Check.refusal("pour from" + told, made, INDEX, x -> x.pour(c, 0));
            Check.refusal("pour into" + told, made, INDEX, x -> x.pour(0, c));
            Check.refusal("settled" + told, made, INDEX, x -> x.settled(c));
            Check.refusal("shownAtLast" + told, made, INDEX, x -> x.shownAtLast(c));
            Check.refusal("whenShown" + told, made, INDEX, x -> x.whenShown(c, 0));
            Check.refusal("slowest" + told, made, INDEX, x -> x.slowest(c));
            Check.refusal("doubles" + told, made, INDEX, x -> x.doubles(c, 1));
        }
    }

    /** "at first 3 with 4 places each" */
    private static void atFirstThreeWithFourPlaces() {
        LateCarries x = new LateCarries();
        Check.same("at first: counters", x.about(0), 3);
        for (int c = 0; c < 3; c++) {
            Check.same("at first: places of " + c, x.counter(c, 0), 4);
        }
    }

    /** "A counter has 1 to 9 places, numbered from 0, the lowest first" */
    private static void oneToNinePlacesNumberedFromZero() {
        String digits = "012001122";
        for (int n = 1; n <= 9; n++) {
            LateCarries x = Lines.of(digits.substring(0, n) + "/0");
            Check.same("places of " + n, x.counter(0, 0), n);
            for (int p = 0; p < n; p++) {
                Check.same("place(0, " + p + ", 0) of " + n, x.place(0, p, 0), digits.charAt(n - 1 - p) - '0');
            }
            int none = n;
            Check.refused("place(0, " + n + ", 0)", x, INDEX, () -> x.place(0, none, 0));
            Check.refused("place(0, -1, 0)", x, INDEX, () -> x.place(0, -1, 0));
            Check.same("resize to " + n, new LateCarries().resize(0, n), 4);
        }
        LateCarries ten = new LateCarries();
        Lines.type(ten, digits + "0");
        Check.same("errorPosition() of ten places", ten.errorPosition(), 9);
        Check.refused("load() of ten places", ten, STATE, ten::load);
        Check.refused("resize to ten places", ten, ARGUMENT, () -> ten.resize(0, 10));
        Check.refused("resize to no place", ten, ARGUMENT, () -> ten.resize(0, 0));
    }

    /** "each has a digit from 0 to 2, at first 0, and a waiting number, at first 0" */
    private static void digitsAndWaitingNumbersAtFirst() {
        LateCarries x = new LateCarries();
        for (int c = 0; c < 3; c++) {
            Check.places("at first", x, c, 0, 0, 0, 0, 0, 0, 0, 0);
        }
        LateCarries up = Lines.of("0+++");
        int[] digits = {1, 2, 0};
        for (int beat = 0; beat < 3; beat++) {
            up.beats(1);
            Check.same("the digit behind " + (beat + 1) + " carries", up.place(0, 0, 0), digits[beat]);
        }
        LateCarries down = Lines.of("0---");
        int[] below = {2, 1, 0};
        for (int beat = 0; beat < 3; beat++) {
            down.beats(1);
            Check.same("the digit behind " + (beat + 1) + " borrows", down.place(0, 0, 0), below[beat]);
        }
    }

    /** "if it is above 0, so many carries wait there, if it is below 0, so many borrows" */
    private static void waitingAboveAndBelowZero() {
        LateCarries x = Lines.of("1+/1-/1");
        Check.places("a carry", x, 0, 1, 1);
        Check.places("a borrow", x, 1, 1, -1);
        Check.places("nothing", x, 2, 1, 0);
        x.beats(1);
        Check.places("the carry is taken up", x, 0, 2, 0);
        Check.places("the borrow is taken up", x, 1, 0, 0);
        Check.places("nothing is taken up", x, 2, 1, 0);
    }

    /** "A counter shows the number that its digits make in the base of three." */
    private static void showsTheNumberOfItsDigits() {
        int weight = 1;
        for (int n = 1; n <= 9; n++) {
            LateCarries x = Lines.of("2".repeat(n) + "/1" + "0".repeat(n - 1) + "/" + "0".repeat(n));
            Check.same("the lowest that " + n + " places show", x.shown(2), 0);
            Check.same("the highest place of " + n, x.shown(1), weight);
            Check.same("the greatest that " + n + " places show", x.shown(0), 3 * weight - 1);
            weight *= 3;
        }
        Check.same("what waits is not shown", Lines.of("0+++++1-----").shown(0), 1);
    }

    /** "Its worth [...] (so it can be below 0, or more than its places could show)" */
    private static void worthBelowZeroAndMoreThanItsPlacesShow() {
        Check.same("just below 0", Lines.of("1--").worth(0), -1);
        Check.same("just 0", Lines.of("1-").worth(0), 0);
        Check.same("the greatest that is shown", Lines.of("22").worth(0), 8);
        Check.same("one more", Lines.of("22+").worth(0), 9);
        Check.same("at the higher place", Lines.of("2+2").worth(0), 11);
        Check.same("below 0 at the higher place", Lines.of("0-2").worth(0), -1);
        Check.same("digit and waiting number together", Lines.of("1--2++").worth(0), 1);
        Check.same("nine places", Lines.of("2+++++".repeat(9)).worth(0), 7 * 9841);
        Check.same("nine places below 0", Lines.of("0-----".repeat(9)).worth(0), -5 * 9841);
        LateCarries x = Lines.of("222222222");
        for (int i = 0; i < 490; i++) {
            x.add(0, 19682);
        }
        Check.same("491 times the greatest", x.worth(0), 491L * 19682);
        Check.same("it shows but one of them", x.shown(0), 19682);
    }

    /** "It is settled if no waiting number of it is other than 0." */
    private static void settledWithNoWaitingNumberOtherThanZero() {
        String[] lines = {"222222222", "000000000", "0+", "0-", "00000000+0", "0+00000000", "0-00000000", "0+0-"};
        int[] settled = {1, 1, 0, 0, 0, 0, 0, 0};
        for (int i = 0; i < lines.length; i++) {
            Check.same("settled counters of " + lines[i], Lines.of(lines[i]).about(4), settled[i]);
            Check.same("settled(0) is 0 of " + lines[i], Lines.of(lines[i]).settled(0) == 0 ? 1 : 0, settled[i]);
            Check.same("script of " + lines[i], Lines.of(lines[i]).runScript(1, 800000 + settled[i]), -1);
        }
        LateCarries meet = Lines.of("0+");
        meet.add(0, -1);
        Check.same("a carry and a borrow that meet", meet.about(4), 1);
    }

    /** "A counter can be linked to the next one (at first none is [...])" */
    private static void atFirstNoneIsLinked() {
        LateCarries x = new LateCarries();
        for (int c = 0; c < 3; c++) {
            Check.same("at first: counter(" + c + ", 1)", x.counter(c, 1), 0);
        }
        Check.same("the first link is the only one", x.link(0, true), 1);
    }

    /** "the last one cannot be [linked]" */
    private static void theLastOneCannotBeLinked() {
        String[] lines = {"2+", "2+/2+", "2+/2+/2+", "2+/2+/2+/2+/2+/2+"};
        for (String line : lines) {
            LateCarries x = Lines.of(line);
            int last = x.about(0) - 1;
            for (int c = 0; c < last; c++) {
                Check.same("link(" + c + ", true)", x.link(c, true), c + 1);
            }
            Check.refused("link of the last one", x, INDEX, () -> x.link(last, true));
            Check.refused("link of the last one, not any more", x, INDEX, () -> x.link(last, false));
            Check.same("the last one is not linked", x.counter(last, 1), 0);
            x.beats(1);
            Check.same("the last one spills", x.counter(last, 2), 1);
        }
    }

    // ---- A BEAT

    private static void aBeat() {
        paceOneToNineAtFirstOne();
        takesUpThePaceOrAll();
        allPlacesAtOneTime();
        whatComesIsAddedToWhatWaits();
        fromTheHighestPlaceToTheNextCounterOrSpilled();
        oneCarryThroughSixLinkedCounters();
    }

    /** "The pace is from 1 to 9, at first 1." */
    private static void paceOneToNineAtFirstOne() {
        LateCarries x = new LateCarries();
        Check.same("at first: pace", x.about(1), 1);
        for (int pace = 1; pace <= 9; pace++) {
            x.setPace(pace);
            Check.same("pace", x.about(1), pace);
        }
        Check.refused("setPace(10)", x, ARGUMENT, () -> x.setPace(10));
        Check.refused("setPace(0)", x, ARGUMENT, () -> x.setPace(0));
    }

    /**
     * "of its waiting number a place takes up as many carries as the pace, or as many borrows, or all, if
     * these are fewer", and "The sum of the digit and what it takes up [...] the remainder by 3 (0 to 2),
     * and carries for the place above it: the sum divided by 3, rounded down (below 0: borrows)": every
     * digit with every pace and every number from 11 borrows to 11 carries, which is all that can differ.
     */
    private static void takesUpThePaceOrAll() {
        for (int digit = 0; digit <= 2; digit++) {
            for (int waits = -11; waits <= 11; waits++) {
                for (int pace = 1; pace <= 9; pace++) {
                    oneBeat(digit, waits, pace);
                }
            }
        }
    }

    private static void oneBeat(int digit, int waits, int pace) {
        LateCarries x = Lines.of("0" + digit);
        for (int i = 0; i < Math.abs(waits); i++) {
            x.add(0, waits < 0 ? -1 : 1);
        }
        x.setPace(pace);
        x.beats(1);
        int taken = waits > pace ? pace : waits < -pace ? -pace : waits;
        // 30 more, a multiple of 3, and then no remainder is below 0
        int sum = 30 + digit + taken;
        Check.places("digit " + digit + ", " + waits + " waiting, pace " + pace, x, 0, sum % 3, waits - taken, 0, sum / 3 - 10);
    }

    /** "In a beat all places of all counters do this at one time, by what there was ahead of it" */
    private static void allPlacesAtOneTime() {
        for (int pace = 1; pace <= 9; pace += 8) {
            LateCarries x = Lines.of("222+>22>2-/0-");
            x.setPace(pace);
            x.beats(1);
            Check.places("a carry goes one place up in a beat", x, 0, 0, 0, 2, 1, 2, 0);
            Check.places("it has not come here", x, 1, 2, 0, 2, 0);
            Check.places("a borrow is taken up by itself", x, 2, 1, 0);
            x.beats(1);
            Check.places("and one more", x, 0, 0, 0, 0, 0, 2, 1);
            x.beats(1);
            Check.places("it is at the next counter", x, 0, 0, 0, 0, 0, 0, 0);
            Check.places("there it waits", x, 1, 2, 1, 2, 0);
            x.beats(1);
            Check.places("it goes on there", x, 1, 0, 0, 2, 1);
        }
    }

    /** "These wait there from the end of the beat on, and are added to what waits there." */
    private static void whatComesIsAddedToWhatWaits() {
        LateCarries more = Lines.of("0++2+");
        more.beats(1);
        Check.places("one is taken up, one comes", more, 0, 0, 0, 1, 2);
        LateCarries meet = Lines.of("0--2+");
        meet.beats(1);
        Check.places("a carry comes where a borrow is left", meet, 0, 0, 0, 2, 0);
        Check.same("it is settled", meet.about(4), 1);
        LateCarries other = Lines.of("2++0-");
        other.beats(1);
        Check.places("a borrow comes where a carry is left", other, 0, 2, 0, 0, 0);
        LateCarries crossed = Lines.of("0-2+");
        crossed.beats(1);
        Check.places("the borrow was taken up ahead of the carry's coming", crossed, 0, 0, 0, 2, 1);
        LateCarries linked = Lines.of("2+>1---");
        linked.beats(1);
        Check.places("so also at the next counter", linked, 1, 0, -1);
    }

    /**
     * "From the highest place they go to the lowest one of the next counter, if the counter is linked to
     * that; otherwise they are spilled."
     */
    private static void fromTheHighestPlaceToTheNextCounterOrSpilled() {
        LateCarries x = Lines.of("2+>00/2+/0->0/0-");
        x.beats(1);
        Check.places("a carry comes at the lowest place", x, 1, 0, 1, 0, 0);
        Check.places("not linked: none comes", x, 3, 2, 0);
        Check.places("a borrow comes", x, 4, 0, -1);
        int[] spilled = {0, 0, 1, 0, 0, -1};
        for (int c = 0; c < spilled.length; c++) {
            Check.same("spilled by " + c, x.counter(c, 2), spilled[c]);
        }
        LateCarries nine = Lines.of("2+22222222>0");
        nine.beats(1);
        Check.places("the ninth place is the highest", nine, 1, 0, 1);
        LateCarries lower = Lines.of("02+>0");
        lower.beats(1);
        Check.places("the lowest is not the highest", lower, 1, 0, 0);
        LateCarries cut = Lines.of("2+>2+");
        cut.link(0, false);
        cut.beats(1);
        Check.same("not linked any more: spilled", cut.counter(0, 2), 1);
        Check.places("and none comes", cut, 1, 0, 0);
        LateCarries more = Lines.of("2+++++/0-----");
        more.setPace(4);
        more.beats(1);
        Check.same("two carries at a time", more.counter(0, 2), 2);
        Check.same("two borrows at a time", more.counter(1, 2), -2);
        more.beats(1);
        Check.same("none with the last one", more.counter(0, 2), 2);
        Check.same("no borrow with the last one", more.counter(1, 2), -2);
    }

    private static void oneCarryThroughSixLinkedCounters() {
        LateCarries x = Lines.of("2+>2>2>2>2>2");
        for (int beat = 1; beat <= 6; beat++) {
            x.beats(1);
            for (int c = 0; c < 6; c++) {
                Check.places("behind beat " + beat, x, c, c < beat ? 0 : 2, c == beat ? 1 : 0);
                Check.same("spilled", x.counter(c, 2), beat == 6 && c == 5 ? 1 : 0);
            }
        }
    }

    // ---- TICKETS

    private static void tickets() {
        ticketHasTheNumberAndACarryComes();
        ticketsAreNumberedFromZero();
        atMostFortyAreDrawn();
        doublesHaveTheSameCounterAndNumber();
    }

    /** "it has the number that this shows then, and one carry comes to wait at its lowest place" */
    private static void ticketHasTheNumberAndACarryComes() {
        LateCarries x = Lines.of("222222222/00-/0+++++0");
        Check.same("draw(0)", x.draw(0), 19682);
        Check.same("draw(1)", x.draw(1), 0);
        Check.same("draw(2)", x.draw(2), 0);
        Check.same("the greatest number", x.ticket(0, 1), 19682);
        Check.same("the lowest number", x.ticket(1, 1), 0);
        Check.places("at the lowest of nine", x, 0, 2, 1, 2, 0, 2, 0, 2, 0, 2, 0, 2, 0, 2, 0, 2, 0, 2, 0);
        Check.places("it meets a borrow", x, 1, 0, 0, 0, 0);
        Check.places("what waits above is left", x, 2, 0, 1, 0, 5);
    }

    /** "Tickets are numbered from 0 in the order in which they were drawn" */
    private static void ticketsAreNumberedFromZero() {
        LateCarries x = Lines.of("2/1/0");
        x.draw(2);
        x.draw(0);
        x.draw(1);
        int[] counters = {2, 0, 1};
        for (int k = 0; k < 3; k++) {
            Check.same("the counter of ticket " + k, x.ticket(k, 0), counters[k]);
        }
        Check.refused("ticket(3, 0) of three", x, INDEX, () -> x.ticket(3, 0));
        Check.refused("ticket(-1, 0)", x, INDEX, () -> x.ticket(-1, 0));
        x.undo();
        Check.refused("ticket(2, 0) that was taken back", x, INDEX, () -> x.ticket(2, 0));
        x.draw(0);
        Check.same("the number is given again", x.ticket(2, 0), 0);
    }

    /** "at most 40 are drawn" */
    private static void atMostFortyAreDrawn() {
        LateCarries x = Lines.withTickets(39);
        x.draw(2);
        Check.same("40 are drawn", x.about(3), 40);
        Check.same("the last of them", x.ticket(39, 0), 2);
        Check.refused("ticket(40, 0)", x, INDEX, () -> x.ticket(40, 0));
        Check.refusal("the 41st", () -> Lines.withTickets(40), STATE, y -> y.draw(0));
        x.undo();
        Check.same("with one taken back", x.about(3), 39);
        Check.same("there is one more", x.draw(1), 0);
        Check.refused("but not two", x, STATE, () -> x.draw(1));
        Lines.type(x, "1");
        x.load();
        for (int i = 0; i < 40; i++) {
            Check.same("40 more behind a load", x.draw(0), 1);
        }
        Check.refused("and no 41st", x, STATE, () -> x.draw(0));
    }

    /** "Two tickets are a double if they were drawn from the same counter and have the same number." */
    private static void doublesHaveTheSameCounterAndNumber() {
        LateCarries one = Lines.of("1/1");
        one.draw(0);
        Check.same("a ticket is no double with itself", one.about(6), 0);
        one.draw(1);
        Check.same("the same number, another counter", one.about(6), 0);
        one.beats(1);
        one.draw(0);
        Check.same("the same counter, another number", one.about(6), 0);
        one.draw(0);
        Check.same("both the same", one.about(6), 1);
        one.draw(0);
        Check.same("three of them are three pairs", one.about(6), 3);
        LateCarries later = Lines.of("1");
        later.draw(0);
        later.beats(3);
        later.add(0, -1);
        later.beats(1);
        later.draw(0);
        Check.same("at another time", later.about(6), 1);
    }

    // ---- TEXT

    private static void text() {
        atMostHundredCharacters();
        everyCharacterAtEveryPlace();
        textThatEndsTooSoon();
        marksOfAPlace();
        linksInAText();
    }

    /** "The object has a text buffer of at most 100 characters." */
    private static void atMostHundredCharacters() {
        Check.same("the signs of the full line", FULL_LINE.length(), 100);
        LateCarries x = Lines.of(FULL_LINE);
        Check.same("a line of 100 characters", x.errorPosition(), -1);
        Check.same("its counters", x.about(0), 2);
        Check.same("the last sign is read", x.place(1, 0, 1), 2);
        Check.same("the first place", x.place(0, 8, 0), 2);
        Check.refused("a 101st character", x, STATE, () -> x.append('+'));
        Check.same("100 are kept", x.clearText(), 100);
        Lines.type(x, FULL_LINE.substring(0, 99) + "x");
        Check.same("an error at the last of 100", x.errorPosition(), 99);
        Lines.type(x, FULL_LINE.substring(0, 98) + "+/");
        Check.same("too soon behind 100", x.errorPosition(), 100);
        Check.refused("load() of it", x, STATE, x::load);
    }

    /**
     * "A line as a text is 1 to 6 counters, each as its digits from the highest place on (1 to 9 of them),
     * behind each of which may stand up to 5 marks, all of them + [...] or all of them -; between two
     * counters stands / or [...] > [...] (behind a sixth counter neither). The error position is the index
     * of the first character that these rules do not allow at its place": what may stand behind each
     * beginning, and no other of the 256 characters.
     */
    private static void everyCharacterAtEveryPlace() {
        String[][] allowed = {
            {"", "012"}, {"0", "012+-/>"}, {"1", "012+-/>"}, {"2", "012+-/>"},
            {"1+", "012+/>"}, {"1-", "012-/>"}, {"1++++", "012+/>"}, {"1----", "012-/>"},
            {"1+++++", "012/>"}, {"1-----", "012/>"}, {"1+1-", "012-/>"}, {"1-----1", "012+-/>"},
            {"01201201", "012+-/>"}, {"012012012", "+-/>"}, {"012012012+", "+/>"}, {"012012012-----", "/>"},
            {"1/", "012"}, {"1>", "012"}, {"1+/", "012"}, {"1/1", "012+-/>"}, {"012012012/01201201", "012+-/>"},
            {"1/1/1/1/1", "012+-/>"}, {"1/1/1/1/1/", "012"}, {"1>1>1>1>1>", "012"},
            {"1/1/1/1/1/1", "012+-"}, {"1>1>1>1>1>1", "012+-"}, {"1/1/1/1/1/1+", "012+"}, {"1/1/1/1/1/1-----", "012"},
            {"1/1/1/1/1/012012012", "+-"}, {"1/1/1/1/1/012012012+", "+"}, {"1/1/1/1/1/012012012+++++", ""}};
        for (String[] row : allowed) {
            for (char sign = 0; sign <= 255; sign++) {
                characterBehind(row[0], sign, row[1].indexOf(sign) >= 0);
            }
        }
    }

    private static void characterBehind(String ahead, char sign, boolean isAllowed) {
        LateCarries x = new LateCarries();
        Lines.type(x, ahead + sign);
        boolean goesOn = sign == '/' || sign == '>';
        int due = !isAllowed ? ahead.length() : goesOn ? ahead.length() + 1 : -1;
        Check.same("errorPosition() of " + ahead + " and " + (int) sign, x.errorPosition(), due);
        if (!isAllowed) {
            x.append('1');
            Check.same("whatever stands behind it", x.errorPosition(), ahead.length());
        }
    }

    /** "if the text ends too soon, it is the length of the text" */
    private static void textThatEndsTooSoon() {
        String[] texts = {"", "1/", "1>", "1+/", "012012012>", "1/1/1/1/1/"};
        for (String text : texts) {
            LateCarries x = new LateCarries();
            Lines.type(x, text);
            Check.same("errorPosition() of " + text, x.errorPosition(), text.length());
            Check.refused("load() of " + text, x, STATE, x::load);
        }
    }

    /** "up to 5 marks, all of them + (a carry that waits at this place) or all of them -" */
    private static void marksOfAPlace() {
        for (int n = 0; n <= 5; n++) {
            LateCarries x = Lines.of("2" + "+".repeat(n) + "1" + "-".repeat(n) + "/0" + "-".repeat(n));
            Check.places(n + " marks", x, 0, 1, -n, 2, n);
            Check.places(n + " marks", x, 1, 0, -n);
        }
        LateCarries six = new LateCarries();
        Lines.type(six, "2++++++");
        Check.same("six marks", six.errorPosition(), 6);
        Lines.type(six, "21------");
        Check.same("six marks at the second place", six.errorPosition(), 7);
    }

    /** "between two counters stands / or, if the one ahead is linked to the one behind, >" */
    private static void linksInAText() {
        LateCarries x = Lines.of("0>1/2>0>1/2");
        int[] linked = {1, 0, 1, 1, 0, 0};
        for (int c = 0; c < linked.length; c++) {
            Check.same("linked: " + c, x.counter(c, 1), linked[c]);
        }
        Lines.type(x, "0/1>2/0/1>2");
        x.load();
        int[] others = {0, 1, 0, 0, 1, 0};
        for (int c = 0; c < others.length; c++) {
            Check.same("linked behind another load: " + c, x.counter(c, 1), others[c]);
        }
    }

    // ---- ACTIONS AND UNDO

    private static void actionsAndUndo() {
        everyCallOfThemIsAnAction();
        alsoIfNothingBecomesDifferent();
        undoIsNone();
        aThrowingCallIsNone();
        fourteenAreRemembered();
        theOldestOneIsForgotten();
        theStateIsEverythingButTextAndSlots();
        loadAndRestoreAreNotActions();
        asksAreNotActions();
    }

    private static final Check.Call[] ACTIONS = {
        x -> x.add(0, 5), x -> x.draw(1), x -> x.beats(1), x -> x.setPace(4), x -> x.link(0, true),
        x -> x.resize(1, 3), x -> x.pour(1, 0)};

    /** "The methods in the section "actions" change the state [...] Each call of one of them [...] is an action" */
    private static void everyCallOfThemIsAnAction() {
        for (int i = 0; i < ACTIONS.length; i++) {
            LateCarries x = Lines.of("12+/2-1/0");
            String ahead = Look.at(x);
            ACTIONS[i].on(x);
            Check.same("action " + i + " changes the state", Look.at(x).equals(ahead) ? 1 : 0, 0);
            Check.same("undo() of action " + i, x.undo(), 0);
            Check.same("the state ahead of action " + i, Look.at(x), ahead);
            Check.refused("no more than one state", x, STATE, x::undo);
        }
    }

    /** "is an action, also if nothing becomes different" */
    private static void alsoIfNothingBecomesDifferent() {
        Check.Call[] idle = {
            x -> x.add(0, 0), x -> x.setPace(1), x -> x.link(0, true), x -> x.link(1, false), x -> x.resize(0, 2),
            x -> x.pour(2, 0)};
        for (int i = 0; i < idle.length; i++) {
            LateCarries x = Lines.of("12+>2-1/0");
            x.beats(1);
            String ahead = Look.at(x);
            idle[i].on(x);
            Check.same("nothing is different behind " + i, Look.at(x), ahead);
            Check.same("but it was an action: " + i, x.undo(), 1);
            Check.same("the beat is taken back behind it", x.undo(), 0);
        }
    }

    /** "(undo is none)" */
    private static void undoIsNone() {
        LateCarries x = new LateCarries();
        x.setPace(2);
        x.setPace(3);
        x.setPace(4);
        Check.same("undo()", x.undo(), 2);
        Check.same("the pace behind one", x.about(1), 3);
        Check.same("undo() again goes on backwards", x.undo(), 1);
        Check.same("the pace behind two", x.about(1), 2);
        Check.same("and again", x.undo(), 0);
        Check.same("the pace behind three", x.about(1), 1);
        Check.refused("undo() of none", x, STATE, x::undo);
    }

    /** "Each call of one of them that does not throw an exception is an action" */
    private static void aThrowingCallIsNone() {
        LateCarries x = Lines.withTickets(40);
        for (int i = 0; i < 14; i++) {
            x.setPace(i % 9 + 1);
        }
        Check.refused("add", x, INDEX, () -> x.add(3, 0));
        Check.refused("add", x, ARGUMENT, () -> x.add(0, 19683));
        Check.refused("add", x, STATE, () -> x.add(0, 81));
        Check.refused("draw", x, INDEX, () -> x.draw(3));
        Check.refused("draw", x, STATE, () -> x.draw(0));
        Check.refused("beats", x, ARGUMENT, () -> x.beats(0));
        Check.refused("setPace", x, ARGUMENT, () -> x.setPace(0));
        LateCarries y = Lines.busy("0/0");
        Check.refused("link", y, INDEX, () -> y.link(1, true));
        Check.refused("resize", y, INDEX, () -> y.resize(2, 1));
        Check.refused("resize", y, ARGUMENT, () -> y.resize(0, 10));
        Check.refused("pour", y, INDEX, () -> y.pour(0, 2));
        Check.refused("pour", y, ARGUMENT, () -> y.pour(0, 0));
        Check.same("still 14 are remembered", x.undo(), 13);
        Check.same("still 14 are remembered", y.undo(), 13);
        for (int i = 12; i >= 0; i--) {
            Check.same("undo()", x.undo(), i);
            Check.same("undo()", y.undo(), i);
        }
        Check.same("the oldest one was not forgotten", x.about(1), 1);
    }

    /** "At most 14 states are remembered" */
    private static void fourteenAreRemembered() {
        for (int n = 0; n <= 30; n++) {
            LateCarries x = new LateCarries();
            for (int i = 0; i < n; i++) {
                x.add(0, 1);
            }
            int kept = Math.min(n, 14);
            for (int i = kept - 1; i >= 0; i--) {
                Check.same("undo() behind " + n + " actions", x.undo(), i);
            }
            Check.same("as it was ahead of the last " + kept, x.worth(0), n - kept);
            Check.refused("no more undo() behind " + n + " actions", x, STATE, x::undo);
        }
    }

    /** "when one more is remembered, the oldest one is forgotten" */
    private static void theOldestOneIsForgotten() {
        LateCarries x = new LateCarries();
        int worth = 0;
        int kept = 0;
        int[] steps = {14, -5, 3, -12, 20, -14, 1, -1, 13, -1, 2, -14};
        for (int step : steps) {
            for (int i = 0; i < step; i++) {
                x.add(0, 1);
                worth++;
                kept = Math.min(kept + 1, 14);
            }
            for (int i = 0; i > step && kept > 0; i--) {
                kept--;
                worth--;
                Check.same("undo() to " + worth, x.undo(), kept);
            }
            Check.same("the worth behind " + step, x.worth(0), worth);
        }
        Check.refused("none is left", x, STATE, x::undo);
    }

    /** "the state, which consists of everything but the text and the save slots" */
    private static void theStateIsEverythingButTextAndSlots() {
        LateCarries x = Lines.of("2+1/0->2");
        x.draw(0);
        String ahead = Look.at(x);
        x.save(0);
        x.pour(2, 0);
        x.link(0, true);
        x.resize(1, 5);
        x.draw(1);
        x.beats(2);
        x.setPace(9);
        x.beats(1);
        Lines.type(x, "1+");
        x.save(1);
        for (int i = 6; i >= 0; i--) {
            Check.same("undo()", x.undo(), 1 + i);
        }
        Check.same("the text stays: its line", x.errorPosition(), -1);
        Check.same("the text stays: its length", x.clearText(), 2);
        x.undo();
        Check.same("a slot that was filled behind the state stays", x.restore(1), 3);
        Check.same("with its pace", x.about(1), 9);
        Check.same("the other slot stays", x.restore(0), 0);
        Lines.type(x, "2+1/0->2");
        Check.same("with its state", Look.at(x), ahead);
    }

    /** "load and restore are not actions." */
    private static void loadAndRestoreAreNotActions() {
        LateCarries x = Lines.of("1");
        Check.refused("undo() of a load", x, STATE, x::undo);
        x.save(0);
        x.restore(0);
        Check.refused("undo() of a restore", x, STATE, x::undo);
        x.setPace(2);
        x.setPace(3);
        Check.same("only what stands behind is remembered", x.undo(), 1);
    }

    /** What is not in the section "actions" is not remembered, and takes nothing from what is. */
    private static void asksAreNotActions() {
        Supplier<LateCarries> made = () -> Lines.busy("2+1>0--/12");
        Check.Call[] asks = {
            LateCarries::errorPosition, x -> x.about(6), x -> x.shown(0), x -> x.worth(0), x -> x.counter(0, 5),
            x -> x.place(0, 1, 1), x -> x.ticket(0, 4), x -> x.sorted(1), x -> x.ranked(2, true), x -> x.ranked(2, false),
            x -> x.settled(2), x -> x.shownAtLast(1), x -> x.whenShown(1, 3), x -> x.leastPace(5), x -> x.slowest(1),
            x -> x.doubles(2, 9), x -> x.runScript(3, 300000400009500001L), x -> x.runScript(2, 620001120008L),
            x -> x.simulate(7, 99)};
        for (int i = 0; i < asks.length; i++) {
            Check.asks("ask " + i, made, asks[i].on(made.get()), asks[i]);
        }
    }

    // ---- EXCEPTIONS

    private static void exceptions() {
        firstNamedIsThrown();
    }

    /**
     * "If several exceptions apply to a call, the one that its description names first is thrown. A call
     * that throws an exception changes nothing."
     */
    private static void firstNamedIsThrown() {
        Supplier<LateCarries> busy = () -> Lines.busy("2+1>0--/12");
        Supplier<LateCarries> full = () -> Lines.withTickets(40);
        Supplier<LateCarries> noSlots = () -> {
            LateCarries x = Lines.of("0");
            Lines.type(x, FULL_LINE);
            return x;
        };
        Check.refusal("append: argument ahead of state", noSlots, ARGUMENT, x -> x.append(256));
        Check.refusal("append: argument ahead of state", noSlots, ARGUMENT, x -> x.append(-1));
        Check.refusal("counter: index ahead of argument", busy, INDEX, x -> x.counter(3, 6));
        Check.refusal("place: index of the counter ahead of argument", busy, INDEX, x -> x.place(3, 0, 2));
        Check.refusal("place: index of the place ahead of argument", busy, INDEX, x -> x.place(0, 2, 2));
        Check.refusal("ticket: index ahead of argument", busy, INDEX, x -> x.ticket(2, 5));
        Check.refusal("add: index ahead of argument", busy, INDEX, x -> x.add(3, 19683));
        Check.refusal("add: index ahead of state", busy, INDEX, x -> x.add(3, 19682));
        Check.refusal("add: argument ahead of state", busy, ARGUMENT, x -> x.add(0, 19683));
        Check.refusal("add: argument ahead of state", busy, ARGUMENT, x -> x.add(0, -19683));
        Check.refusal("draw: index ahead of state", full, INDEX, x -> x.draw(3));
        Check.refusal("resize: index ahead of argument", busy, INDEX, x -> x.resize(3, 10));
        Check.refusal("pour: index ahead of argument", busy, INDEX, x -> x.pour(3, 3));
        Check.refusal("pour: index ahead of argument", busy, INDEX, x -> x.pour(-1, -1));
        Check.refusal("whenShown: index ahead of argument", busy, INDEX, x -> x.whenShown(3, -1));
        Check.refusal("doubles: index ahead of argument", busy, INDEX, x -> x.doubles(3, 10));
        Check.refusal("restore: index ahead of state", noSlots, INDEX, x -> x.restore(2));
    }
}
