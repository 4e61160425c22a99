import java.util.Random;
import java.util.function.LongSupplier;

/**
 * Runs of 512 calls on LateCarries and on Model, each answer compared; the last ones look at all that there
 * is to be seen of the counters and at many of the tickets. The seeds are fixed.
 */
public final class ModelTest {
    private static final int CALLS = 512;
    private static final int LAST_LOOK = 170;
    private static final String SIGNS = "012012012012+-/> 3";

    private final Random random;
    private final int flavour;
    private final int run;
    private final LateCarries x = new LateCarries();
    private final Model m = new Model();
    private int calls = 0;
    private boolean wrong = false;

    private ModelTest(int run) {
        this.run = run;
        this.random = new Random(7000 + run);
        this.flavour = run % 6;
    }

    public static void main(String[] args) {
        int runs = args.length > 0 ? Integer.parseInt(args[0]) : 300;
        int bad = 0;
        for (int run = 0; run < runs; run++) {
            ModelTest test = new ModelTest(run);
            test.play();
            bad += test.wrong ? 1 : 0;
        }
        System.out.println("ModelTest: " + runs + " runs, " + bad + " wrong");
        if (bad != 0) {
            System.exit(1);
        }
    }

    private void both(String name, LongSupplier got, LongSupplier due) {
        if (wrong || calls >= CALLS) {
            return;
        }
        calls++;
        String a = Look.answer(got);
        String b = Look.answer(due);
        if (!a.equals(b)) {
            wrong = true;
            System.out.println("run " + run + ", call " + calls + ": " + name + " answered " + a + ", due is " + b);
        }
    }

    private void play() {
        if (flavour != 0) {
            typeLine(flavour);
        }
        while (!wrong && calls < CALLS - LAST_LOOK) {
            int kind = random.nextInt(100);
            if (kind < 45) {
                act();
            } else if (kind < 70) {
                read();
            } else if (kind < 85) {
                foresee();
            } else if (kind < 92) {
                script();
            } else if (kind < 96) {
                slot();
            } else {
                text();
            }
        }
        for (int c = 0; c < m.about(0); c++) {
            look(c);
        }
        for (int k = m.about(3) - 1; k >= 0; k--) {
            look(k, random.nextInt(5));
        }
    }

    /** Mostly a counter that exists, at times another number. */
    private int counter() {
        int n = m.about(0);
        int odd = random.nextInt(30);
        return odd == 0 ? -1 : odd == 1 ? n : odd == 2 ? Integer.MAX_VALUE : odd == 3 ? Integer.MIN_VALUE : random.nextInt(n);
    }

    /** Mostly a number in the range, at times one just outside it or far off. */
    private int within(int low, int high) {
        int odd = random.nextInt(40);
        if (odd < 4) {
            int[] edge = {low - 1, high + 1, low, high};
            return edge[odd];
        }
        if (odd == 4) {
            return random.nextInt();
        }
        return low + random.nextInt(high - low + 1);
    }

    private void act() {
        int c = counter();
        int d = random.nextInt(6);
        int n;
        switch (random.nextInt(flavour == 2 ? 9 : 14)) {
            case 0: case 1: case 2: case 3:
                int v = amount(c);
                both("add(" + c + ", " + v + ")", () -> x.add(c, v), () -> m.add(c, v));
                break;
            case 4: case 5:
                both("draw(" + c + ")", () -> x.draw(c), () -> m.draw(c));
                break;
            case 6:
                both("pour(" + c + ", " + d + ")", () -> x.pour(c, d), () -> m.pour(c, d));
                break;
            case 7:
                boolean is = random.nextInt(4) != 0;
                both("link(" + c + ", " + is + ")", () -> x.link(c, is), () -> m.link(c, is));
                break;
            case 8:
                if (random.nextInt(3) == 0) {
                    int size = within(1, 9);
                    both("resize(" + c + ", " + size + ")", () -> x.resize(c, size), () -> m.resize(c, size));
                }
                break;
            case 9: case 10:
                n = random.nextInt(8) == 0 ? within(1, 99) : 1 + random.nextInt(3);
                int beats = n;
                both("beats(" + beats + ")", () -> x.beats(beats), () -> m.beats(beats));
                break;
            case 11:
                int pace = within(1, 9);
                both("setPace(" + pace + ")", () -> x.setPace(pace), () -> m.setPace(pace));
                break;
            default:
                for (n = random.nextInt(4); n > 0; n--) {
                    both("undo()", x::undo, m::undo);
                }
        }
    }

    private int amount(int c) {
        int size = c >= 0 && c < m.about(0) ? m.counter(c, 0) : 4;
        int most = 1;
        for (int p = 0; p < size; p++) {
            most *= 3;
        }
        int v = random.nextInt(5) == 0 ? within(-19682, 19682) : random.nextInt(most + 1);
        return random.nextInt(flavour == 2 ? 9 : 2) == 0 && v > Integer.MIN_VALUE ? -v : v;
    }

    private void read() {
        if (random.nextInt(12) == 0) {
            look(random.nextInt(m.about(0)));
            return;
        }
        int c = counter();
        int k = within(0, 40);
        int kind = random.nextInt(8);
        int what = within(0, 6);
        if (kind == 0) {
            both("about(" + what + ")", () -> x.about(what), () -> m.about(what));
        } else if (kind == 1) {
            both("shown(" + c + ")", () -> x.shown(c), () -> m.shown(c));
        } else if (kind == 2) {
            both("worth(" + c + ")", () -> x.worth(c), () -> m.worth(c));
        } else if (kind == 3) {
            both("counter(" + c + ", " + what + ")", () -> x.counter(c, what), () -> m.counter(c, what));
        } else if (kind == 4) {
            int p = within(0, 8);
            int part = within(0, 1);
            both("place(" + c + ", " + p + ", " + part + ")", () -> x.place(c, p, part), () -> m.place(c, p, part));
        } else if (kind == 5) {
            both("ticket(" + k + ", " + what + ")", () -> x.ticket(k, what), () -> m.ticket(k, what));
        } else if (kind == 6) {
            both("sorted(" + k + ")", () -> x.sorted(k), () -> m.sorted(k));
        } else {
            boolean worths = random.nextBoolean();
            both("ranked(" + c + ", " + worths + ")", () -> x.ranked(c, worths), () -> m.ranked(c, worths));
        }
    }

    private void look(int c) {
        both("worth(" + c + ")", () -> x.worth(c), () -> m.worth(c));
        both("counter(" + c + ", 2)", () -> x.counter(c, 2), () -> m.counter(c, 2));
        for (int p = 0; p < m.counter(c, 0); p++) {
            int at = p;
            both("place(" + c + ", " + p + ", 0)", () -> x.place(c, at, 0), () -> m.place(c, at, 0));
            both("place(" + c + ", " + p + ", 1)", () -> x.place(c, at, 1), () -> m.place(c, at, 1));
        }
    }

    private void look(int k, int what) {
        both("ticket(" + k + ", " + what + ")", () -> x.ticket(k, what), () -> m.ticket(k, what));
        both("sorted(" + k + ")", () -> x.sorted(k), () -> m.sorted(k));
    }

    private void foresee() {
        int c = counter();
        switch (random.nextInt(6)) {
            case 0:
                both("settled(" + c + ")", () -> x.settled(c), () -> m.settled(c));
                break;
            case 1:
                both("shownAtLast(" + c + ")", () -> x.shownAtLast(c), () -> m.shownAtLast(c));
                break;
            case 2:
                int v = random.nextInt(10) == 0 ? within(0, 19682) : laterShown(c);
                both("whenShown(" + c + ", " + v + ")", () -> x.whenShown(c, v), () -> m.whenShown(c, v));
                break;
            case 3:
                int n = random.nextInt(3) == 0 ? within(0, 99) : random.nextInt(12);
                both("leastPace(" + n + ")", () -> x.leastPace(n), () -> m.leastPace(n));
                break;
            case 4:
                both("slowest(" + c + ")", () -> x.slowest(c), () -> m.slowest(c));
                break;
            default:
                int drawn = within(1, 9);
                both("doubles(" + c + ", " + drawn + ")", () -> x.doubles(c, drawn), () -> m.doubles(c, drawn));
        }
    }

    private int laterShown(int c) {
        if (c < 0 || c >= m.about(0)) {
            return 0;
        }
        return random.nextBoolean() ? m.shownAtLast(c) : m.shown(c) / 3 * 3;
    }

    private void script() {
        if (random.nextInt(3) == 0) {
            long seed = random.nextInt(4) == 0 ? random.nextLong() : random.nextInt(10) - 5;
            int turns = within(1, 99);
            both("simulate(" + seed + ", " + turns + ")", () -> x.simulate(seed, turns), () -> m.simulate(seed, turns));
            return;
        }
        if (random.nextInt(3) == 0) {
            tellingScript();
            return;
        }
        int n = random.nextInt(20) == 0 ? within(1, 3) : 1 + random.nextInt(3);
        long script = 0;
        for (int i = 0; i < n && i < 3; i++) {
            script = script * 1000000 + command();
        }
        int odd = random.nextInt(25);
        long given = odd == 0 ? -script : odd == 1 ? script * 10 : odd == 2 ? random.nextLong() : script;
        both("runScript(" + n + ", " + given + ")", () -> x.runScript(n, given), () -> m.runScript(n, given));
    }

    /** A command, some beats, and what a counter shows then: so a command that changes too little is seen. */
    private void tellingScript() {
        long first = command();
        int beats = 1 + random.nextInt(6);
        int c = random.nextInt(m.about(0));
        int v = m.shownBehind((int) first, beats, c) % 10000;
        long script = (first * 1000000 + 400000 + beats) * 1000000 + 700000 + 10000 * c + v;
        both("runScript(3, " + script + ")", () -> x.runScript(3, script), () -> m.runScript(3, script));
    }

    private int command() {
        int size = m.about(0);
        int kind = 1 + random.nextInt(9);
        int c = random.nextInt(size + (random.nextInt(6) == 0 ? 2 : 0));
        int rest = 0;
        if (kind <= 2) {
            rest = random.nextInt(random.nextInt(3) == 0 ? 10000 : 81);
        } else if (kind == 4) {
            c = 0;
            rest = random.nextInt(100);
        } else if (kind == 5) {
            c = 0;
            rest = random.nextInt(10);
        } else if (kind == 6 || kind == 8) {
            rest = random.nextInt(2);
        } else if (kind == 7) {
            rest = c < size ? m.shown(c) % 10000 : 0;
        } else if (kind == 9) {
            rest = random.nextInt(size + (random.nextInt(6) == 0 ? 2 : 0)) * 1000;
        }
        int command = kind * 100000 + c * 10000 + rest;
        int odd = random.nextInt(12);
        if (odd == 0) {
            command = random.nextInt(1000000);
        } else if (odd == 1) {
            int[] tens = {1, 10, 100, 1000, 10000, 100000};
            command = (command + tens[random.nextInt(6)]) % 1000000;
        }
        return command;
    }

    private void slot() {
        int slot = random.nextInt(12) == 0 ? within(0, 1) : random.nextInt(2);
        if (random.nextBoolean()) {
            both("save(" + slot + ")", () -> x.save(slot), () -> m.save(slot));
        } else {
            both("restore(" + slot + ")", () -> x.restore(slot), () -> m.restore(slot));
        }
    }

    private void text() {
        int kind = random.nextInt(8);
        if (kind == 0) {
            both("clearText()", x::clearText, m::clearText);
        } else if (kind == 1) {
            both("load()", x::load, m::load);
        } else if (kind == 2 && flavour != 5) {
            typeLine(random.nextInt(6));
        } else {
            for (int i = random.nextInt(9); i >= 0; i--) {
                int c = random.nextInt(30) == 0 ? within(0, 255) : SIGNS.charAt(random.nextInt(SIGNS.length()));
                both("append(" + c + ")", () -> x.append(c), () -> m.append(c));
                both("errorPosition()", x::errorPosition, m::errorPosition);
            }
        }
    }

    private void typeLine(int style) {
        both("clearText()", x::clearText, m::clearText);
        StringBuilder line = new StringBuilder();
        int counters = style == 1 ? 1 : 1 + random.nextInt(6);
        for (int c = 0; c < counters; c++) {
            int size = style == 2 ? 9 : 1 + random.nextInt(style == 3 ? 2 : 5);
            for (int p = 0; p < size; p++) {
                line.append((char) ('0' + random.nextInt(3)));
                int marks = random.nextInt(3) == 0 ? random.nextInt(6) : 0;
                line.append((random.nextBoolean() ? "+" : "-").repeat(style == 2 ? 0 : marks));
            }
            if (c + 1 < counters) {
                line.append(random.nextInt(3) == 0 ? '/' : '>');
            }
        }
        for (int i = 0; i < line.length(); i++) {
            int c = line.charAt(i);
            both("append(" + c + ")", () -> x.append(c), () -> m.append(c));
        }
        both("errorPosition()", x::errorPosition, m::errorPosition);
        both("load()", x::load, m::load);
    }
}
