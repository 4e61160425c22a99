import java.util.ArrayList;
import java.util.List;
import java.util.regex.Matcher;
import java.util.regex.Pattern;

/**
 * A second program for the same document, written for plainness alone and in another way than
 * LateCarries: lists of objects, a beat from a copy of the line, scripts by the calls themselves.
 */
final class Model {
    private static final String COUNTER = "([012](\\+{1,5}|-{1,5})?){1,9}";

    static final class Place {
        int digit;
        int waits;

        Place(int digit, int waits) {
            this.digit = digit;
            this.waits = waits;
        }
    }

    static final class Counter {
        List<Place> places = new ArrayList<>();
        boolean linked;
        int spilled;

        Counter copy() {
            Counter other = new Counter();
            for (Place p : places) {
                other.places.add(new Place(p.digit, p.waits));
            }
            other.linked = linked;
            other.spilled = spilled;
            return other;
        }

        int shown() {
            int sum = 0;
            int weight = 1;
            for (Place p : places) {
                sum += weight * p.digit;
                weight *= 3;
            }
            return sum;
        }

        long worth() {
            long sum = 0;
            long weight = 1;
            for (Place p : places) {
                sum += weight * (p.digit + p.waits);
                weight *= 3;
            }
            return sum;
        }

        int waitingPlaces() {
            int n = 0;
            for (Place p : places) {
                n += p.waits == 0 ? 0 : 1;
            }
            return n;
        }
    }

    static final class Ticket {
        int index;
        int counter;
        int number;
        int beat;
        long excess;
    }

    static final class State {
        List<Counter> counters = new ArrayList<>();
        List<Ticket> tickets = new ArrayList<>();
        int pace = 1;
        int beats;

        State copy() {
            State other = new State();
            for (Counter c : counters) {
                other.counters.add(c.copy());
            }
            other.tickets.addAll(tickets);
            other.pace = pace;
            other.beats = beats;
            return other;
        }

        int waitingPlaces() {
            int n = 0;
            for (Counter c : counters) {
                n += c.waitingPlaces();
            }
            return n;
        }

        int settledCounters() {
            int n = 0;
            for (Counter c : counters) {
                n += c.waitingPlaces() == 0 ? 1 : 0;
            }
            return n;
        }

        int doubles() {
            int n = 0;
            for (Ticket a : tickets) {
                for (Ticket b : tickets) {
                    if (a.index < b.index && a.counter == b.counter && a.number == b.number) {
                        n++;
                    }
                }
            }
            return n;
        }

        void beat() {
            State ahead = copy();
            for (int c = 0; c < counters.size(); c++) {
                for (int p = 0; p < counters.get(c).places.size(); p++) {
                    Place old = ahead.counters.get(c).places.get(p);
                    int part = Math.min(pace, Math.abs(old.waits)) * Integer.signum(old.waits);
                    int sum = old.digit + part;
                    int digit = ((sum % 3) + 3) % 3;
                    int carries = (sum - digit) / 3;
                    Place now = counters.get(c).places.get(p);
                    now.digit = digit;
                    now.waits -= part;
                    if (p + 1 < counters.get(c).places.size()) {
                        counters.get(c).places.get(p + 1).waits += carries;
                    } else if (counters.get(c).linked) {
                        counters.get(c + 1).places.get(0).waits += carries;
                    } else {
                        counters.get(c).spilled += carries;
                    }
                }
            }
            beats++;
        }
    }

    private StringBuilder text = new StringBuilder();
    private State state = new State();
    private List<State> remembered = new ArrayList<>();
    private State[] slots = new State[2];

    Model() {
        for (int c = 0; c < 3; c++) {
            state.counters.add(new Counter());
            resizeTo(state.counters.get(c), 4);
        }
    }

    private static void resizeTo(Counter c, int n) {
        while (c.places.size() > n) {
            c.places.remove(c.places.size() - 1);
        }
        while (c.places.size() < n) {
            c.places.add(new Place(0, 0));
        }
    }

    /** The same text, state, what is remembered and slots, apart from this one. */
    private Model twin() {
        Model other = new Model();
        other.state = state.copy();
        return other;
    }

    private void remember() {
        remembered.add(state.copy());
        if (remembered.size() > 14) {
            remembered.remove(0);
        }
    }

    private Counter counterAt(int c) {
        if (c < 0 || c >= state.counters.size()) {
            throw new IndexOutOfBoundsException();
        }
        return state.counters.get(c);
    }

    private static void range(long value, long low, long high) {
        if (value < low || value > high) {
            throw new IllegalArgumentException();
        }
    }

    int append(int c) {
        range(c, 0, 255);
        if (text.length() == 100) {
            throw new IllegalStateException();
        }
        text.append((char) c);
        return text.length();
    }

    int clearText() {
        int n = text.length();
        text = new StringBuilder();
        return n;
    }

    int errorPosition() {
        for (int n = 1; n <= text.length(); n++) {
            if (!canBegin(text.substring(0, n))) {
                return n - 1;
            }
        }
        return text.length() > 0 && text.substring(text.length() - 1).matches("[^/>]") ? -1 : text.length();
    }

    /** Whether a line can begin so: whole counters, and behind the last sign between two perhaps nothing yet. */
    private static boolean canBegin(String text) {
        String[] parts = text.split("[/>]", -1);
        for (int i = 0; i < parts.length; i++) {
            boolean yetToCome = i == parts.length - 1 && parts[i].isEmpty();
            if (!yetToCome && !parts[i].matches(COUNTER)) {
                return false;
            }
        }
        return parts.length <= 6;
    }

    int load() {
        if (errorPosition() != -1) {
            throw new IllegalStateException();
        }
        state = new State();
        remembered.clear();
        slots = new State[2];
        String rest = text.toString();
        while (!rest.isEmpty()) {
            Matcher m = Pattern.compile(COUNTER).matcher(rest);
            m.lookingAt();
            Counter c = new Counter();
            Matcher place = Pattern.compile("([012])([+-]*)").matcher(m.group());
            while (place.find()) {
                int waits = place.group(2).length() * (place.group(2).startsWith("-") ? -1 : 1);
                c.places.add(0, new Place(Integer.parseInt(place.group(1)), waits));
            }
            state.counters.add(c);
            rest = rest.substring(m.end());
            if (!rest.isEmpty()) {
                c.linked = rest.startsWith(">");
                rest = rest.substring(1);
            }
        }
        return state.counters.size();
    }

    int about(int what) {
        range(what, 0, 6);
        int[] all = {state.counters.size(), state.pace, state.beats, state.tickets.size(),
            state.settledCounters(), state.waitingPlaces(), state.doubles()};
        return all[what];
    }

    int shown(int c) {
        return counterAt(c).shown();
    }

    long worth(int c) {
        return counterAt(c).worth();
    }

    int counter(int c, int what) {
        Counter it = counterAt(c);
        range(what, 0, 5);
        int drawn = 0;
        for (Ticket t : state.tickets) {
            drawn += t.counter == c ? 1 : 0;
        }
        int sum = 0;
        for (Place p : it.places) {
            sum += p.digit;
        }
        int[] all = {it.places.size(), it.linked ? 1 : 0, it.spilled, drawn, it.waitingPlaces(), sum};
        return all[what];
    }

    int place(int c, int p, int what) {
        Counter it = counterAt(c);
        if (p < 0 || p >= it.places.size()) {
            throw new IndexOutOfBoundsException();
        }
        range(what, 0, 1);
        return what == 0 ? it.places.get(p).digit : it.places.get(p).waits;
    }

    long ticket(int k, int what) {
        if (k < 0 || k >= state.tickets.size()) {
            throw new IndexOutOfBoundsException();
        }
        range(what, 0, 4);
        Ticket t = state.tickets.get(k);
        int doubles = 0;
        for (Ticket o : state.tickets) {
            if (o.index != k && o.counter == t.counter && o.number == t.number) {
                doubles++;
            }
        }
        long[] all = {t.counter, t.number, t.beat, doubles, t.excess};
        return all[what];
    }

    int sorted(int k) {
        if (k < 0 || k >= state.tickets.size()) {
            throw new IndexOutOfBoundsException();
        }
        List<Ticket> order = new ArrayList<>(state.tickets);
        order.sort((a, b) -> a.number != b.number ? a.number - b.number
            : a.counter != b.counter ? a.counter - b.counter : a.index - b.index);
        return order.get(k).index;
    }

    int ranked(int k, boolean worths) {
        counterAt(k);
        List<Integer> order = new ArrayList<>();
        for (int c = 0; c < state.counters.size(); c++) {
            order.add(c);
        }
        order.sort((a, b) -> worths ? Long.compare(worth(b), worth(a)) : Integer.compare(shown(b), shown(a)));
        return order.get(k);
    }

    int add(int c, int v) {
        Counter it = counterAt(c);
        range(v, -19682, 19682);
        String digits = Integer.toString(Math.abs(v), 3);
        if (digits.length() > it.places.size()) {
            throw new IllegalStateException();
        }
        remember();
        int sum = 0;
        for (int p = 0; p < digits.length(); p++) {
            int digit = digits.charAt(digits.length() - 1 - p) - '0';
            it.places.get(p).waits += v < 0 ? -digit : digit;
            sum += digit;
        }
        return sum;
    }

    int draw(int c) {
        counterAt(c);
        if (state.tickets.size() >= 40) {
            throw new IllegalStateException();
        }
        remember();
        return drawAnyway(c);
    }

    private int drawAnyway(int c) {
        Ticket t = new Ticket();
        t.index = state.tickets.size();
        t.counter = c;
        t.number = shown(c);
        t.beat = state.beats;
        t.excess = worth(c) - shown(c);
        state.tickets.add(t);
        counterAt(c).places.get(0).waits++;
        return t.number;
    }

    int beats(int n) {
        range(n, 1, 99);
        remember();
        for (int i = 0; i < n; i++) {
            state.beat();
        }
        return state.settledCounters();
    }

    int setPace(int pace) {
        range(pace, 1, 9);
        remember();
        int old = state.pace;
        state.pace = pace;
        return old;
    }

    int link(int c, boolean is) {
        Counter it = counterAt(c);
        if (c == state.counters.size() - 1) {
            throw new IndexOutOfBoundsException();
        }
        remember();
        it.linked = is;
        int n = 0;
        for (Counter o : state.counters) {
            n += o.linked ? 1 : 0;
        }
        return n;
    }

    int resize(int c, int n) {
        Counter it = counterAt(c);
        range(n, 1, 9);
        remember();
        int old = it.places.size();
        resizeTo(it, n);
        return old;
    }

    long pour(int c, int d) {
        Counter from = counterAt(c);
        Counter to = counterAt(d);
        if (c == d) {
            throw new IllegalArgumentException();
        }
        remember();
        long old = to.worth();
        for (int p = 0; p < from.places.size(); p++) {
            Place place = from.places.get(p);
            if (p < to.places.size()) {
                to.places.get(p).waits += place.digit + place.waits;
            } else {
                to.spilled += place.digit + place.waits;
            }
            place.digit = 0;
            place.waits = 0;
        }
        return to.worth() - old;
    }

    int undo() {
        if (remembered.isEmpty()) {
            throw new IllegalStateException();
        }
        state = remembered.remove(remembered.size() - 1);
        return remembered.size();
    }

    int settled(int c) {
        counterAt(c);
        State s = state.copy();
        int n = 0;
        while (true) {
            boolean all = s.counters.get(c).waitingPlaces() == 0;
            for (int d = c - 1; d >= 0 && s.counters.get(d).linked; d--) {
                all &= s.counters.get(d).waitingPlaces() == 0;
            }
            if (all) {
                return n;
            }
            s.beat();
            n++;
        }
    }

    int shownAtLast(int c) {
        counterAt(c);
        State s = state.copy();
        while (s.waitingPlaces() > 0) {
            s.beat();
        }
        return s.counters.get(c).shown();
    }

    int whenShown(int c, int v) {
        counterAt(c);
        range(v, 0, 19682);
        State s = state.copy();
        int n = 0;
        while (s.counters.get(c).shown() != v) {
            if (s.waitingPlaces() == 0) {
                return -1;
            }
            s.beat();
            n++;
        }
        return n;
    }

    int leastPace(int n) {
        range(n, 0, 99);
        for (int pace = 1; pace <= 9; pace++) {
            State s = state.copy();
            s.pace = pace;
            for (int i = 0; i < n; i++) {
                s.beat();
            }
            if (s.waitingPlaces() == 0) {
                return pace;
            }
        }
        return -1;
    }

    int slowest(int c) {
        int size = counterAt(c).places.size();
        int best = 0;
        int latest = -1;
        for (int v = 1; v <= (size == 1 ? 2 : size == 2 ? 8 : 26); v++) {
            Model other = twin();
            other.add(c, v);
            int n = other.settled(c);
            if (n > latest) {
                latest = n;
                best = v;
            }
        }
        return best;
    }

    int doubles(int c, int n) {
        counterAt(c);
        range(n, 1, 9);
        Model other = twin();
        for (int i = 0; i < n; i++) {
            other.drawAnyway(c);
            other.state.beat();
        }
        return other.state.doubles();
    }

    int runScript(int n, long script) {
        range(n, 1, 3);
        if (script < 0 || Long.toString(script).length() > 6 * n) {
            throw new IllegalArgumentException();
        }
        StringBuilder padded = new StringBuilder(Long.toString(script));
        while (padded.length() < 6 * n) {
            padded.insert(0, '0');
        }
        Model other = twin();
        for (int i = 0; i < n; i++) {
            boolean good;
            try {
                good = other.command(padded.substring(6 * i, 6 * i + 6));
            } catch (IndexOutOfBoundsException | IllegalArgumentException | IllegalStateException e) {
                good = false;
            }
            if (!good) {
                return i;
            }
        }
        return -1;
    }

    /** What the counter c shows behind a command and n beats; only for tests that look for good scripts. */
    int shownBehind(int command, int n, int c) {
        Model other = twin();
        try {
            other.command(String.format("%06d", command));
            other.beats(n);
        } catch (IndexOutOfBoundsException | IllegalArgumentException | IllegalStateException e) {
            // then the script fails, whatever stands behind it
        }
        return other.shown(c);
    }

    private boolean command(String g) {
        int c = g.charAt(1) - '0';
        int rest = Integer.parseInt(g.substring(2));
        if (g.matches("1.....")) {
            add(c, rest);
        } else if (g.matches("2.....")) {
            add(c, -rest);
        } else if (g.matches("3.0000")) {
            draw(c);
        } else if (g.matches("4000..")) {
            beats(rest);
        } else if (g.matches("50000.")) {
            setPace(rest);
        } else if (g.matches("6.000[01]")) {
            link(c, rest == 1);
        } else if (g.matches("7.....")) {
            return shown(c) == rest;
        } else if (g.matches("8.000[01]")) {
            return (counter(c, 4) == 0) == (rest == 1);
        } else if (g.matches("9..000")) {
            return worth(c) > worth(g.charAt(2) - '0');
        } else {
            return false;
        }
        return true;
    }

    int simulate(long seed, int m) {
        range(m, 1, 99);
        Model other = twin();
        int ahead = state.doubles();
        int size = state.counters.size();
        long x = seed;
        for (int i = 0; i < m; i++) {
            x = x * 6364136223846793005L + 1442695040888963407L;
            int r = (int) (x >>> 33);
            int c = r / 8 % size;
            try {
                switch (r % 8) {
                    case 0: case 1: case 2: other.draw(c); break;
                    case 3: other.add(c, r / 64 % 81); break;
                    case 4: other.add(c, -(r / 64 % 81)); break;
                    case 5: other.pour(c, (c + 1) % size); break;
                    default: break;
                }
            } catch (IllegalStateException | IllegalArgumentException e) {
                // is left out
            }
            other.state.beat();
        }
        return 1000 * (other.state.doubles() - ahead) + other.state.waitingPlaces();
    }

    int save(int slot) {
        if (slot < 0 || slot > 1) {
            throw new IndexOutOfBoundsException();
        }
        slots[slot] = state.copy();
        return state.beats;
    }

    int restore(int slot) {
        if (slot < 0 || slot > 1) {
            throw new IndexOutOfBoundsException();
        }
        if (slots[slot] == null) {
            throw new IllegalStateException();
        }
        state = slots[slot].copy();
        remembered.clear();
        return state.beats;
    }
}
