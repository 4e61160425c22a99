/** Counters in the base of three whose carries travel late. See README.md for how to use it. */
public final class LateCarries {
    public static final int NONE = -1;

    private static final int MOST_COUNTERS = 6;
    private static final int MOST_PLACES = 9;
    private static final int CELLS = MOST_COUNTERS * MOST_PLACES;
    private static final int BASE = 3;
    private static final int GREATEST_SHOWN = 19682;
    private static final int MOST_PACE = 9;
    private static final int MOST_BEATS = 99;
    private static final int MOST_TICKETS = 40;
    private static final int MOST_TRIAL_TICKETS = 9;
    private static final int MOST_REMEMBERED = 14;
    private static final int SLOTS = 2;
    private static final int MOST_SIGNS = 100;
    private static final int MOST_MARKS = 5;
    private static final int MOST_TURNS = 99;
    private static final int MOST_COMMANDS = 3;
    private static final int COMMAND_LIMIT = 1000000;

    // Far above what 512 calls can bring to wait: a few thousand beats settle any line.
    private static final int BEATS_TO_REST_LIMIT = 1000000;

    private final LineText text = new LineText();
    private final Line now = new Line();
    private final History history = new History();
    private final Line[] slots = new Line[SLOTS];
    private final boolean[] slotUsed = new boolean[SLOTS];

    // One copy, made once and used by every call that only asks what would be.
    private final Line trial = new Line();
    private final int[] commands = new int[MOST_COMMANDS];

    public LateCarries() {
        for (int slot = 0; slot < SLOTS; slot++) {
            slots[slot] = new Line();
        }
    }

    // ---- text

    public int append(int c) throws IllegalArgumentException, IllegalStateException {
        requireRange(c, 0, 255);
        if (text.length >= MOST_SIGNS) {
            throw new IllegalStateException("the text is full");
        }
        text.put((char) c);
        return text.length;
    }

    public int clearText() {
        int previous = text.length;
        text.length = 0;
        return previous;
    }

    public int errorPosition() {
        return text.firstWrong();
    }

    public int load() throws IllegalStateException {
        if (text.firstWrong() != NONE) {
            throw new IllegalStateException("the text is not a line");
        }
        now.clear();
        text.writeInto(now);
        history.forget();
        for (int slot = 0; slot < SLOTS; slot++) {
            slotUsed[slot] = false;
        }
        return now.counters;
    }

    // ---- what there is

    public int about(int what) throws IllegalArgumentException {
        requireRange(what, 0, 6);
        switch (what) {
            case 0: return now.counters;
            case 1: return now.pace;
            case 2: return now.beatCount;
            case 3: return now.tickets;
            case 4: return now.countersAtRest();
            case 5: return now.waitingInAll();
            default: return now.pairs();
        }
    }

    public int shown(int c) throws IndexOutOfBoundsException {
        requireCounter(c);
        return now.reading(c);
    }

    public long worth(int c) throws IndexOutOfBoundsException {
        requireCounter(c);
        return now.fullReading(c);
    }

    public int counter(int c, int what) throws IndexOutOfBoundsException, IllegalArgumentException {
        requireCounter(c);
        requireRange(what, 0, 5);
        switch (what) {
            case 0: return now.places[c];
            case 1: return now.linked[c] ? 1 : 0;
            case 2: return now.spilled[c];
            case 3: return now.ticketsOf(c);
            case 4: return now.waitingAt(c);
            default: return now.digitSum(c);
        }
    }

    public int place(int c, int p, int what) throws IndexOutOfBoundsException, IllegalArgumentException {
        requireCounter(c);
        if (p < 0 || p >= now.places[c]) {
            throw new IndexOutOfBoundsException("no such place");
        }
        requireRange(what, 0, 1);
        int cell = cellOf(c, p);
        return what == 0 ? now.digits[cell] : now.waiting[cell];
    }

    public long ticket(int k, int what) throws IndexOutOfBoundsException, IllegalArgumentException {
        requireTicket(k);
        requireRange(what, 0, 4);
        switch (what) {
            case 0: return now.ticketCounter[k];
            case 1: return now.ticketNumber[k];
            case 2: return now.ticketBeat[k];
            case 3: return now.partners(k);
            default: return now.ticketExcess[k];
        }
    }

    public int sorted(int k) throws IndexOutOfBoundsException {
        requireTicket(k);
        for (int t = 0; t < now.tickets; t++) {
            if (now.ticketsAheadOf(t) == k) {
                return t;
            }
        }
        return NONE;
    }

    public int ranked(int k, boolean worths) throws IndexOutOfBoundsException {
        requireCounter(k);
        for (int c = 0; c < now.counters; c++) {
            if (now.countersAheadOf(c, worths) == k) {
                return c;
            }
        }
        return NONE;
    }

    // ---- actions

    public int add(int c, int v) throws IndexOutOfBoundsException, IllegalArgumentException, IllegalStateException {
        requireCounter(c);
        requireRange(v, -GREATEST_SHOWN, GREATEST_SHOWN);
        if (!now.hasPlacesFor(c, v)) {
            throw new IllegalStateException("more digits than places");
        }
        history.remember(now);
        return now.putDigits(c, v);
    }

    public int draw(int c) throws IndexOutOfBoundsException, IllegalStateException {
        requireCounter(c);
        if (now.tickets >= MOST_TICKETS) {
            throw new IllegalStateException("all tickets were drawn");
        }
        history.remember(now);
        return now.drawFrom(c);
    }

    public int beats(int n) throws IllegalArgumentException {
        requireRange(n, 1, MOST_BEATS);
        history.remember(now);
        now.passBeats(n);
        return now.countersAtRest();
    }

    public int setPace(int pace) throws IllegalArgumentException {
        requireRange(pace, 1, MOST_PACE);
        history.remember(now);
        int previous = now.pace;
        now.pace = pace;
        return previous;
    }

    public int link(int c, boolean is) throws IndexOutOfBoundsException {
        if (!now.canLink(c)) {
            throw new IndexOutOfBoundsException("no such counter, or none behind it");
        }
        history.remember(now);
        now.linked[c] = is;
        return now.linkedCounters();
    }

    public int resize(int c, int n) throws IndexOutOfBoundsException, IllegalArgumentException {
        requireCounter(c);
        requireRange(n, 1, MOST_PLACES);
        history.remember(now);
        int previous = now.places[c];
        now.changePlaces(c, n);
        return previous;
    }

    public long pour(int c, int d) throws IndexOutOfBoundsException, IllegalArgumentException {
        requireCounter(c);
        requireCounter(d);
        if (c == d) {
            throw new IllegalArgumentException("a counter can't be poured into itself");
        }
        history.remember(now);
        long previous = now.fullReading(d);
        now.pourInto(c, d);
        return now.fullReading(d) - previous;
    }

    public int undo() throws IllegalStateException {
        if (history.count == 0) {
            throw new IllegalStateException("no state is remembered");
        }
        history.takeBack(now);
        return history.count;
    }

    // ---- what would be, if only beats went by

    public int settled(int c) throws IndexOutOfBoundsException {
        requireCounter(c);
        trial.copyFrom(now);
        return trial.runToRest(c);
    }

    public int shownAtLast(int c) throws IndexOutOfBoundsException {
        requireCounter(c);
        trial.copyFrom(now);
        trial.runToRest(c);
        return trial.reading(c);
    }

    public int whenShown(int c, int v) throws IndexOutOfBoundsException, IllegalArgumentException {
        requireCounter(c);
        requireRange(v, 0, GREATEST_SHOWN);
        trial.copyFrom(now);
        return trial.runToReading(c, v);
    }

    public int leastPace(int n) throws IllegalArgumentException {
        requireRange(n, 0, MOST_BEATS);
        for (int pace = 1; pace <= MOST_PACE; pace++) {
            trial.copyFrom(now);
            trial.pace = pace;
            trial.passBeats(n);
            if (trial.waitingInAll() == 0) {
                return pace;
            }
        }
        return NONE;
    }

    public int slowest(int c) throws IndexOutOfBoundsException {
        requireCounter(c);
        int greatest = greatestToTry(now.places[c]);
        int found = NONE;
        int longest = -1;
        for (int v = 1; v <= greatest; v++) {
            trial.copyFrom(now);
            trial.putDigits(c, v);
            int time = trial.runToRest(c);
            if (time > longest) {
                longest = time;
                found = v;
            }
        }
        return found;
    }

    public int doubles(int c, int n) throws IndexOutOfBoundsException, IllegalArgumentException {
        requireCounter(c);
        requireRange(n, 1, MOST_TRIAL_TICKETS);
        trial.copyFrom(now);
        for (int i = 0; i < n; i++) {
            trial.drawFrom(c);
            trial.passBeats(1);
        }
        return trial.pairs();
    }

    // ---- scripts, simulations

    public int runScript(int n, long script) throws IllegalArgumentException {
        requireRange(n, 1, MOST_COMMANDS);
        if (script < 0 || !splitScript(n, script)) {
            throw new IllegalArgumentException("not a script of so many commands");
        }
        trial.copyFrom(now);
        for (int i = 0; i < n; i++) {
            if (!obeys(trial, commands[i])) {
                return i;
            }
        }
        return NONE;
    }

    public int simulate(long seed, int m) throws IllegalArgumentException {
        requireRange(m, 1, MOST_TURNS);
        trial.copyFrom(now);
        int pairsAhead = trial.pairs();
        long x = seed;
        for (int i = 0; i < m; i++) {
            x = x * 6364136223846793005L + 1442695040888963407L;
            takeTurn(trial, (int) (x >>> 33));
            trial.passBeats(1);
        }
        return 1000 * (trial.pairs() - pairsAhead) + trial.waitingInAll();
    }

    // ---- save slots

    public int save(int slot) throws IndexOutOfBoundsException {
        requireSlot(slot);
        slots[slot].copyFrom(now);
        slotUsed[slot] = true;
        return now.beatCount;
    }

    public int restore(int slot) throws IndexOutOfBoundsException, IllegalStateException {
        requireSlot(slot);
        if (!slotUsed[slot]) {
            throw new IllegalStateException("nothing has been saved there");
        }
        now.copyFrom(slots[slot]);
        history.forget();
        return now.beatCount;
    }

    // ---- what arguments are refused

    private static void requireRange(int value, int lowest, int highest) {
        if (value < lowest || value > highest) {
            throw new IllegalArgumentException("an argument is out of its range");
        }
    }

    private void requireCounter(int c) {
        if (!now.hasCounter(c)) {
            throw new IndexOutOfBoundsException("no such counter");
        }
    }

    private void requireTicket(int k) {
        if (k < 0 || k >= now.tickets) {
            throw new IndexOutOfBoundsException("no such ticket");
        }
    }

    private static void requireSlot(int slot) {
        if (slot < 0 || slot >= SLOTS) {
            throw new IndexOutOfBoundsException("no such save slot");
        }
    }

    // ---- helpers of the calls

    private static int cellOf(int c, int p) {
        return c * MOST_PLACES + p;
    }

    private static int greatestToTry(int places) {
        if (places == 1) {
            return 2;
        }
        return places == 2 ? 8 : 26;
    }

    /** Answers false if the script has more digits than n commands have. */
    private boolean splitScript(int n, long script) {
        long rest = script;
        for (int i = n - 1; i >= 0; i--) {
            commands[i] = (int) (rest % COMMAND_LIMIT);
            rest /= COMMAND_LIMIT;
        }
        return rest == 0;
    }

    private static boolean obeys(Line line, int command) {
        int kind = command / 100000;
        int c = command / 10000 % 10;
        int rest = command % 10000;
        switch (kind) {
            case 1: return line.tryPutDigits(c, rest);
            case 2: return line.tryPutDigits(c, -rest);
            case 3: return rest == 0 && line.tryDraw(c);
            case 4: return c == 0 && obeysBeats(line, rest);
            case 5: return c == 0 && obeysPace(line, rest);
            case 6: return obeysLink(line, c, rest);
            case 7: return line.hasCounter(c) && line.reading(c) == rest;
            case 8: return rest <= 1 && line.hasCounter(c) && line.isAtRest(c) == (rest == 1);
            case 9: return rest % 1000 == 0 && obeysGreater(line, c, rest / 1000);
            default: return false;
        }
    }

    private static boolean obeysBeats(Line line, int n) {
        if (n < 1 || n > MOST_BEATS) {
            return false;
        }
        line.passBeats(n);
        return true;
    }

    private static boolean obeysPace(Line line, int pace) {
        if (pace < 1 || pace > MOST_PACE) {
            return false;
        }
        line.pace = pace;
        return true;
    }

    private static boolean obeysLink(Line line, int c, int is) {
        if (is > 1 || !line.canLink(c)) {
            return false;
        }
        line.linked[c] = is == 1;
        return true;
    }

    private static boolean obeysGreater(Line line, int c, int d) {
        return line.hasCounter(c) && line.hasCounter(d) && line.fullReading(c) > line.fullReading(d);
    }

    private static void takeTurn(Line line, int r) {
        int counters = line.counters;
        if (counters < 1) {
            return;
        }
        int c = r / 8 % counters;
        int v = r / 64 % 81;
        switch (r % 8) {
            case 0:
            case 1:
            case 2:
                line.tryDraw(c);
                break;
            case 3:
                line.tryPutDigits(c, v);
                break;
            case 4:
                line.tryPutDigits(c, -v);
                break;
            case 5:
                line.tryPour(c, (c + 1) % counters);
                break;
            default:
                break;
        }
    }

    /**
     * The whole state: the counters with their places, the pace, the beats, the tickets.
     * Its rows are as long as they can ever have to be, so that one state is copied into another
     * without making anything. A method that takes a counter, a place or a ticket is only called
     * with one that exists, unless its name begins with has, can or try.
     */
    private static final class Line {
        int counters;
        int pace;
        int beatCount;
        int tickets;
        final int[] places = new int[MOST_COUNTERS];
        final boolean[] linked = new boolean[MOST_COUNTERS];
        final int[] spilled = new int[MOST_COUNTERS];
        final int[] digits = new int[CELLS];
        final int[] waiting = new int[CELLS];
        // There is room behind the tickets that can be drawn for those that only would be.
        final int[] ticketCounter = new int[MOST_TICKETS + MOST_TRIAL_TICKETS];
        final int[] ticketNumber = new int[MOST_TICKETS + MOST_TRIAL_TICKETS];
        final int[] ticketBeat = new int[MOST_TICKETS + MOST_TRIAL_TICKETS];
        final long[] ticketExcess = new long[MOST_TICKETS + MOST_TRIAL_TICKETS];

        Line() {
            counters = 3;
            pace = 1;
            for (int c = 0; c < 3; c++) {
                places[c] = 4;
            }
        }

        void clear() {
            counters = 0;
            pace = 1;
            beatCount = 0;
            tickets = 0;
            for (int c = 0; c < MOST_COUNTERS; c++) {
                places[c] = 0;
                linked[c] = false;
                spilled[c] = 0;
            }
            for (int cell = 0; cell < CELLS; cell++) {
                digits[cell] = 0;
                waiting[cell] = 0;
            }
        }

        void copyFrom(Line other) {
            counters = other.counters;
            pace = other.pace;
            beatCount = other.beatCount;
            tickets = other.tickets;
            System.arraycopy(other.places, 0, places, 0, MOST_COUNTERS);
            System.arraycopy(other.linked, 0, linked, 0, MOST_COUNTERS);
            System.arraycopy(other.spilled, 0, spilled, 0, MOST_COUNTERS);
            System.arraycopy(other.digits, 0, digits, 0, CELLS);
            System.arraycopy(other.waiting, 0, waiting, 0, CELLS);
            System.arraycopy(other.ticketCounter, 0, ticketCounter, 0, tickets);
            System.arraycopy(other.ticketNumber, 0, ticketNumber, 0, tickets);
            System.arraycopy(other.ticketBeat, 0, ticketBeat, 0, tickets);
            System.arraycopy(other.ticketExcess, 0, ticketExcess, 0, tickets);
        }

        // ---- what a line tells of its counters

        boolean hasCounter(int c) {
            return c >= 0 && c < counters;
        }

        boolean canLink(int c) {
            return c >= 0 && c < counters - 1;
        }

        boolean hasPlacesFor(int c, int v) {
            int rest = Math.abs(v);
            for (int p = 0; p < places[c]; p++) {
                rest /= BASE;
            }
            return rest == 0;
        }

        int reading(int c) {
            int number = 0;
            for (int p = places[c] - 1; p >= 0; p--) {
                number = number * BASE + digits[cellOf(c, p)];
            }
            return number;
        }

        long fullReading(int c) {
            long number = 0;
            for (int p = places[c] - 1; p >= 0; p--) {
                int cell = cellOf(c, p);
                number = number * BASE + digits[cell] + waiting[cell];
            }
            return number;
        }

        int digitSum(int c) {
            int sum = 0;
            for (int p = 0; p < places[c]; p++) {
                sum += digits[cellOf(c, p)];
            }
            return sum;
        }

        int waitingAt(int c) {
            int count = 0;
            for (int p = 0; p < places[c]; p++) {
                if (waiting[cellOf(c, p)] != 0) {
                    count++;
                }
            }
            return count;
        }

        int waitingInAll() {
            int count = 0;
            for (int c = 0; c < counters; c++) {
                count += waitingAt(c);
            }
            return count;
        }

        boolean isAtRest(int c) {
            return waitingAt(c) == 0;
        }

        int countersAtRest() {
            int count = 0;
            for (int c = 0; c < counters; c++) {
                if (isAtRest(c)) {
                    count++;
                }
            }
            return count;
        }

        int linkedCounters() {
            int count = 0;
            for (int c = 0; c < counters; c++) {
                if (linked[c]) {
                    count++;
                }
            }
            return count;
        }

        int countersAheadOf(int c, boolean worths) {
            long own = worths ? fullReading(c) : reading(c);
            int count = 0;
            for (int d = 0; d < counters; d++) {
                long other = worths ? fullReading(d) : reading(d);
                if (other > own || (other == own && d < c)) {
                    count++;
                }
            }
            return count;
        }

        // ---- what a line tells of its tickets

        int ticketsOf(int c) {
            int count = 0;
            for (int t = 0; t < tickets; t++) {
                if (ticketCounter[t] == c) {
                    count++;
                }
            }
            return count;
        }

        boolean arePair(int a, int b) {
            return ticketCounter[a] == ticketCounter[b] && ticketNumber[a] == ticketNumber[b];
        }

        int partners(int k) {
            int count = 0;
            for (int t = 0; t < tickets; t++) {
                if (t != k && arePair(t, k)) {
                    count++;
                }
            }
            return count;
        }

        int pairs() {
            int count = 0;
            for (int t = 0; t < tickets; t++) {
                count += partners(t);
            }
            return count / 2;
        }

        int ticketsAheadOf(int k) {
            int count = 0;
            for (int t = 0; t < tickets; t++) {
                if (isTicketAhead(t, k)) {
                    count++;
                }
            }
            return count;
        }

        boolean isTicketAhead(int a, int b) {
            if (ticketNumber[a] != ticketNumber[b]) {
                return ticketNumber[a] < ticketNumber[b];
            }
            if (ticketCounter[a] != ticketCounter[b]) {
                return ticketCounter[a] < ticketCounter[b];
            }
            return a < b;
        }

        // ---- what changes a line

        /** Lets the digits of v come to wait, and answers how many carries or borrows these are. */
        int putDigits(int c, int v) {
            int sign = v < 0 ? -1 : 1;
            int rest = Math.abs(v);
            int sum = 0;
            for (int p = 0; p < places[c]; p++) {
                int digit = rest % BASE;
                waiting[cellOf(c, p)] += sign * digit;
                sum += digit;
                rest /= BASE;
            }
            return sum;
        }

        boolean tryPutDigits(int c, int v) {
            if (!hasCounter(c) || !hasPlacesFor(c, v)) {
                return false;
            }
            putDigits(c, v);
            return true;
        }

        int drawFrom(int c) {
            int number = reading(c);
            if (tickets < ticketNumber.length) {
                ticketCounter[tickets] = c;
                ticketNumber[tickets] = number;
                ticketBeat[tickets] = beatCount;
                ticketExcess[tickets] = fullReading(c) - number;
                tickets++;
            }
            waiting[cellOf(c, 0)]++;
            return number;
        }

        boolean tryDraw(int c) {
            if (!hasCounter(c) || tickets >= MOST_TICKETS) {
                return false;
            }
            drawFrom(c);
            return true;
        }

        void changePlaces(int c, int n) {
            // What lies above the places is kept empty, so that new places need no clearing.
            for (int p = n; p < places[c]; p++) {
                digits[cellOf(c, p)] = 0;
                waiting[cellOf(c, p)] = 0;
            }
            places[c] = n;
        }

        void pourInto(int c, int d) {
            for (int p = 0; p < places[c]; p++) {
                int from = cellOf(c, p);
                int poured = digits[from] + waiting[from];
                digits[from] = 0;
                waiting[from] = 0;
                if (p < places[d]) {
                    waiting[cellOf(d, p)] += poured;
                } else {
                    spilled[d] += poured;
                }
            }
        }

        void tryPour(int c, int d) {
            if (hasCounter(c) && hasCounter(d) && c != d) {
                pourInto(c, d);
            }
        }

        // ---- beats

        void passBeats(int n) {
            for (int i = 0; i < n; i++) {
                passBeat(0, counters - 1);
                beatCount++;
            }
        }

        /**
         * Goes from the highest place down, for then each place has already taken up its part
         * when the carries of this beat come to wait there.
         */
        void passBeat(int first, int last) {
            for (int c = last; c >= first; c--) {
                for (int p = places[c] - 1; p >= 0; p--) {
                    if (waiting[cellOf(c, p)] != 0) {
                        takeUp(c, p);
                    }
                }
            }
        }

        void takeUp(int c, int p) {
            int cell = cellOf(c, p);
            int taken = Math.max(-pace, Math.min(pace, waiting[cell]));
            int sum = digits[cell] + taken;
            waiting[cell] -= taken;
            digits[cell] = Math.floorMod(sum, BASE);
            handOn(c, p, Math.floorDiv(sum, BASE));
        }

        void handOn(int c, int p, int carries) {
            if (p + 1 < places[c]) {
                waiting[cellOf(c, p + 1)] += carries;
            } else if (linked[c] && canLink(c)) {
                waiting[cellOf(c + 1, 0)] += carries;
            } else {
                spilled[c] += carries;
            }
        }

        /** The lowest counter from which links lead to c, one behind the other. */
        int chainStart(int c) {
            int start = c;
            while (start > 0 && linked[start - 1]) {
                start--;
            }
            return start;
        }

        /** The first counter from there to c at which something waits, or c + 1 if there is none. */
        int firstAtWork(int from, int c) {
            int first = from;
            while (first <= c && isAtRest(first)) {
                first++;
            }
            return first;
        }

        /**
         * Answers how many beats it takes. Only the counters whose carries can reach c are run, and of
         * these no more those that are at rest with none at work ahead of them: nothing comes to them.
         */
        int runToRest(int c) {
            int first = firstAtWork(chainStart(c), c);
            int time = 0;
            while (first <= c && time < BEATS_TO_REST_LIMIT) {
                passBeat(first, c);
                time++;
                first = firstAtWork(first, c);
            }
            return time;
        }

        int runToReading(int c, int v) {
            int first = chainStart(c);
            for (int time = 0; time < BEATS_TO_REST_LIMIT; time++) {
                if (reading(c) == v) {
                    return time;
                }
                first = firstAtWork(first, c);
                if (first > c) {
                    return NONE;
                }
                passBeat(first, c);
            }
            return NONE;
        }
    }

    /** The remembered states, in a ring: the oldest one is written over when there is no more room. */
    private static final class History {
        final Line[] states = new Line[MOST_REMEMBERED];
        int oldest;
        int count;

        History() {
            for (int i = 0; i < MOST_REMEMBERED; i++) {
                states[i] = new Line();
            }
        }

        void forget() {
            count = 0;
        }

        void remember(Line line) {
            if (count == MOST_REMEMBERED) {
                oldest = (oldest + 1) % MOST_REMEMBERED;
                count--;
            }
            states[(oldest + count) % MOST_REMEMBERED].copyFrom(line);
            count++;
        }

        void takeBack(Line line) {
            if (count > 0) {
                count--;
                line.copyFrom(states[(oldest + count) % MOST_REMEMBERED]);
            }
        }
    }

    /** The text buffer, and what it says as a line. */
    private static final class LineText {
        final char[] signs = new char[MOST_SIGNS];
        int length;

        void put(char sign) {
            if (length < MOST_SIGNS) {
                signs[length] = sign;
                length++;
            }
        }

        int firstWrong() {
            int counters = 1;
            int digits = 0;
            int marks = 0;
            char lastSign = 0;
            for (int i = 0; i < length; i++) {
                char sign = signs[i];
                if (isDigit(sign)) {
                    if (digits == MOST_PLACES) {
                        return i;
                    }
                    digits++;
                    marks = 0;
                } else if (isMark(sign)) {
                    if (digits == 0 || marks == MOST_MARKS || (marks > 0 && sign != lastSign)) {
                        return i;
                    }
                    marks++;
                } else if (isBetween(sign)) {
                    if (digits == 0 || counters == MOST_COUNTERS) {
                        return i;
                    }
                    counters++;
                    digits = 0;
                } else {
                    return i;
                }
                lastSign = sign;
            }
            return digits == 0 ? length : NONE;
        }

        /**
         * Reads the text, which is a line, from its end: so the lowest place of a counter comes first,
         * and the marks come ahead of the digit that they belong to.
         */
        void writeInto(Line line) {
            line.counters = countersInText();
            int c = line.counters - 1;
            int marks = 0;
            for (int i = length - 1; i >= 0 && c >= 0; i--) {
                char sign = signs[i];
                if (isDigit(sign)) {
                    writeDigit(line, c, sign - '0', marks);
                    marks = 0;
                } else if (isMark(sign)) {
                    marks += sign == '+' ? 1 : -1;
                } else {
                    c--;
                    if (c >= 0) {
                        line.linked[c] = sign == '>';
                    }
                }
            }
        }

        static void writeDigit(Line line, int c, int digit, int marks) {
            int p = line.places[c];
            if (p < MOST_PLACES) {
                line.digits[cellOf(c, p)] = digit;
                line.waiting[cellOf(c, p)] = marks;
                line.places[c] = p + 1;
            }
        }

        int countersInText() {
            int counters = 1;
            for (int i = 0; i < length; i++) {
                if (isBetween(signs[i])) {
                    counters++;
                }
            }
            return counters;
        }

        static boolean isDigit(char sign) {
            return sign >= '0' && sign <= '2';
        }

        static boolean isMark(char sign) {
            return sign == '+' || sign == '-';
        }

        static boolean isBetween(char sign) {
            return sign == '/' || sign == '>';
        }
    }
}
