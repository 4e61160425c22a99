import java.util.function.Supplier;

/** The boundary cases of promises 28 and 29: scripts, and simulations. */
public final class EdgesOfScriptsTest {
    private static final Class<IllegalArgumentException> ARGUMENT = IllegalArgumentException.class;
    private static final Supplier<LateCarries> BUSY = () -> Lines.busy("2+1>0--/12");
    private static final long FACTOR = 6364136223846793005L;
    private static final long SUMMAND = 1442695040888963407L;

    private EdgesOfScriptsTest() {
    }

    public static void main(String[] args) {
        promise28Range();
        promise28FirstCommandIsTheHighestGroup();
        promise28NoCommand();
        promise28Add();
        promise28Draw();
        promise28Beats();
        promise28SetPace();
        promise28Link();
        promise28Shows();
        promise28IsSettled();
        promise28IsGreater();
        promise28CommandsWorkOnOneCopy();
        promise29Range();
        promise29Kinds();
        promise29Numbers();
        promise29LeftOut();
        promise29DoublesThatCome();
        promise29LongSeeds();
        Check.finish("EdgesOfScriptsTest");
    }

    // ---- promise 28

    private static void succeeds(Supplier<LateCarries> made, int n, long script) {
        Check.asks("runScript(" + n + ", " + script + ")", made, -1, x -> x.runScript(n, script));
    }

    private static void failsAt(int index, Supplier<LateCarries> made, int n, long script) {
        Check.asks("runScript(" + n + ", " + script + ")", made, index, x -> x.runScript(n, script));
    }

    private static Supplier<LateCarries> line(String text) {
        return () -> Lines.of(text);
    }

    /** "n: number of commands, 1 to 3", "a number of at most 6 * n digits (0 or more)" */
    private static void promise28Range() {
        for (int n : new int[] {0, -1, 4, Integer.MIN_VALUE, Integer.MAX_VALUE}) {
            for (long script : new long[] {0, -1, 300000, Long.MAX_VALUE}) {
                Check.refusal("runScript(" + n + ", " + script + ")", BUSY, ARGUMENT, x -> x.runScript(n, script));
            }
        }
        long limit = 1;
        for (int n = 1; n <= 3; n++) {
            limit *= 1000000;
            int commands = n;
            long first = limit;
            for (long script : new long[] {-1, first, first + 1, Long.MAX_VALUE, Long.MIN_VALUE, -first, Long.MIN_VALUE + 1}) {
                Check.refusal("runScript(" + n + ", " + script + ")", BUSY, ARGUMENT, x -> x.runScript(commands, script));
            }
            failsAt(0, BUSY, n, limit - 1);
            failsAt(0, BUSY, n, 0);
            failsAt(0, BUSY, n, 1);
        }
        succeeds(BUSY, 1, 500009L);
        succeeds(BUSY, 2, 500009500009L);
        succeeds(BUSY, 3, 500009500009500009L);
    }

    /** "the first command is the highest group of the number (with zeros before it, if it has fewer digits)" */
    private static void promise28FirstCommandIsTheHighestGroup() {
        long good = 300000;
        long bad = 999999;
        succeeds(BUSY, 1, good);
        failsAt(0, BUSY, 2, good);
        failsAt(0, BUSY, 3, good * 1000000 + good);
        failsAt(0, BUSY, 1, bad);
        failsAt(1, BUSY, 2, good * 1000000 + bad);
        failsAt(0, BUSY, 2, bad * 1000000 + good);
        failsAt(2, BUSY, 3, (good * 1000000 + good) * 1000000 + bad);
        failsAt(1, BUSY, 3, (good * 1000000 + bad) * 1000000 + good);
        failsAt(1, BUSY, 3, (good * 1000000 + bad) * 1000000 + bad);
        failsAt(0, BUSY, 3, (bad * 1000000 + good) * 1000000 + good);
        failsAt(2, BUSY, 3, (good * 1000000 + good) * 1000000);
        succeeds(BUSY, 3, (good * 1000000 + good) * 1000000 + good);
    }

    /** "and so does any other group": none begins with 0. */
    private static void promise28NoCommand() {
        for (int group : new int[] {0, 1, 9, 10000, 10001, 20000, 99999}) {
            failsAt(0, BUSY, 1, group);
        }
    }

    /** "1 c v v v v: add(c, vvvv). 2 c v v v v: add(c, -vvvv)." */
    private static void promise28Add() {
        Supplier<LateCarries> six = line("0/00/000/0000/00000000/000000000");
        int[] most = {2, 8, 26, 80, 6560, 9999};
        for (int c = 0; c < 6; c++) {
            for (int kind = 1; kind <= 2; kind++) {
                int command = 100000 * kind + 10000 * c;
                succeeds(six, 1, command);
                succeeds(six, 1, command + 1);
                succeeds(six, 1, command + most[c]);
                if (most[c] < 9999) {
                    failsAt(0, six, 1, command + most[c] + 1);
                    failsAt(0, six, 1, command + 9999);
                }
            }
        }
        for (int c = 6; c <= 9; c++) {
            failsAt(0, six, 1, 100000 + 10000 * c);
            failsAt(0, six, 1, 200000 + 10000 * c);
        }
        failsAt(0, line("0"), 1, 110000);
        failsAt(0, line("0"), 1, 210000);
        succeeds(line("0000"), 3, 100010400001700010L);
        succeeds(line("2222"), 3, 200010400001700070L);
        succeeds(line("000000000"), 3, 109999400099709999L);
    }

    /** "3 c 0 0 0 0: draw(c)." */
    private static void promise28Draw() {
        Supplier<LateCarries> full = () -> Lines.withTickets(40);
        Supplier<LateCarries> nearly = () -> Lines.withTickets(39);
        for (int c = 0; c < 3; c++) {
            succeeds(nearly, 1, 300000 + 10000 * c);
            failsAt(0, full, 1, 300000 + 10000 * c);
        }
        failsAt(1, nearly, 2, 300000310000L);
        failsAt(1, () -> Lines.withTickets(38), 2, 300000330000L);
        failsAt(2, () -> Lines.withTickets(38), 3, 300000310000320000L);
        for (int rest : new int[] {1, 9, 10, 100, 1000, 9999}) {
            failsAt(0, line("0/0"), 1, 300000 + rest);
        }
        failsAt(0, line("0/0"), 1, 320000);
        failsAt(0, line("0/0/0/0/0/0"), 1, 360000);
        succeeds(line("0/0/0/0/0/0"), 1, 350000);
        succeeds(line("1"), 3, 300000400001700002L);
    }

    /** "4 0 0 0 n n: beats(nn)." */
    private static void promise28Beats() {
        Supplier<LateCarries> two = line("222222222+/0");
        for (int n : new int[] {1, 9, 10, 98, 99}) {
            succeeds(two, 1, 400000 + n);
        }
        for (int group : new int[] {400000, 400100, 400101, 401000, 401001, 410000, 410001, 490099}) {
            failsAt(0, two, 1, group);
        }
        failsAt(1, two, 2, 400008700000L);
        succeeds(two, 2, 400009700000L);
        succeeds(two, 2, 400099700000L);
    }

    /** "5 0 0 0 0 p: setPace(p)." */
    private static void promise28SetPace() {
        Supplier<LateCarries> two = line("0+++++/0");
        for (int pace = 1; pace <= 9; pace++) {
            succeeds(two, 1, 500000 + pace);
            int left = pace >= 5 ? 1 : 0;
            succeeds(two, 3, (500000L + pace) * 1000000000000L + 400001800000L + left);
        }
        for (int group : new int[] {500000, 500010, 500011, 500101, 501001, 510001, 590009, 500099}) {
            failsAt(0, two, 1, group);
        }
    }

    /** "6 c 0 0 0 b: link(c, b is 1) (b is 0 or 1)." */
    private static void promise28Link() {
        Supplier<LateCarries> six = line("2+>0/0/0/0/0");
        for (int c = 0; c <= 4; c++) {
            for (int is = 0; is <= 9; is++) {
                if (is <= 1) {
                    succeeds(six, 1, 600000 + 10000 * c + is);
                } else {
                    failsAt(0, six, 1, 600000 + 10000 * c + is);
                }
            }
        }
        for (int c = 5; c <= 9; c++) {
            failsAt(0, six, 1, 600000 + 10000 * c);
            failsAt(0, six, 1, 600001 + 10000 * c);
        }
        for (int rest : new int[] {10, 11, 100, 101, 1000, 1001}) {
            failsAt(0, six, 1, 600000 + rest);
        }
        failsAt(0, line("0"), 1, 600000);
        failsAt(0, line("0"), 1, 600001);
        succeeds(six, 3, 600000400002710000L);
        succeeds(six, 3, 600001400002710001L);
        succeeds(line("2+/0"), 3, 600001400002710001L);
    }

    /** "7 c v v v v: succeeds if the counter c shows vvvv." */
    private static void promise28Shows() {
        Supplier<LateCarries> six = line("0/2+/00001/111201100/111201102/222222222");
        int[] shown = {0, 2, 1, 9999, 10001, 19682};
        for (int c = 0; c < 6; c++) {
            for (int v : new int[] {0, 1, 2, 3, 9998, 9999, 9682}) {
                if (v == shown[c]) {
                    succeeds(six, 1, 700000 + 10000 * c + v);
                } else {
                    failsAt(0, six, 1, 700000 + 10000 * c + v);
                }
            }
        }
        for (int c = 6; c <= 9; c++) {
            failsAt(0, six, 1, 700000 + 10000 * c);
        }
        failsAt(0, line("0"), 1, 710000);
        Check.same("what the fourth one shows", six.get().shown(3), 9999);
        Check.same("what the fifth one shows", six.get().shown(4), 10001);
    }

    /** "8 c 0 0 0 s: succeeds if the counter c is settled (s is 1), or not (s is 0)." */
    private static void promise28IsSettled() {
        Supplier<LateCarries> six = line("2/0+/0-/0+0-/0>2");
        int[] settled = {1, 0, 0, 0, 1, 1};
        for (int c = 0; c < 6; c++) {
            for (int is = 0; is <= 9; is++) {
                if (is == settled[c]) {
                    succeeds(six, 1, 800000 + 10000 * c + is);
                } else {
                    failsAt(0, six, 1, 800000 + 10000 * c + is);
                }
            }
        }
        for (int c = 6; c <= 9; c++) {
            failsAt(0, six, 1, 800000 + 10000 * c);
            failsAt(0, six, 1, 800001 + 10000 * c);
        }
        for (int rest : new int[] {10, 11, 100, 101, 1000, 1001}) {
            failsAt(0, six, 1, 800000 + rest);
            failsAt(0, six, 1, 810000 + rest);
        }
        // a counter is settled by what waits at itself, whatever comes from one ahead
        succeeds(line("0+++>0"), 1, 810001);
    }

    /** "9 c d 0 0 0: succeeds if the worth of the counter c is greater than that of the counter d." */
    private static void promise28IsGreater() {
        Supplier<LateCarries> six = line("2/1+/0+++/0-/2--/2---");
        int[] worth = {2, 2, 3, -1, 0, -1};
        for (int c = 0; c < 6; c++) {
            for (int d = 0; d < 6; d++) {
                int command = 900000 + 10000 * c + 1000 * d;
                if (worth[c] > worth[d]) {
                    succeeds(six, 1, command);
                } else {
                    failsAt(0, six, 1, command);
                }
            }
        }
        for (int none = 6; none <= 9; none++) {
            failsAt(0, six, 1, 920000 + 1000 * none);
            failsAt(0, six, 1, 903000 + 10000 * none);
        }
        for (int rest : new int[] {1, 9, 10, 100, 999}) {
            failsAt(0, six, 1, 920000 + rest);
        }
        succeeds(six, 1, 920000);
        failsAt(0, line("2"), 1, 901000);
        failsAt(0, line("2"), 1, 910000);
    }

    /** "Runs a script on a copy of the state." */
    private static void promise28CommandsWorkOnOneCopy() {
        LateCarries x = Lines.of("0");
        for (int i = 0; i < 3; i++) {
            Check.same("each time from the state as it is", x.runScript(3, 100001400001700001L), -1);
        }
        Check.same("the counter is as it was", x.worth(0), 0);
        failsAt(2, line("0"), 3, 100001400001700000L);
        failsAt(1, line("0"), 3, 100001800001400001L);
        LateCarries y = new LateCarries();
        Check.same("a script that fails at last", y.runScript(3, 300000300000999999L), 2);
        Check.same("draws no ticket", y.about(3), 0);
        Check.same("nor does the next one", y.doubles(0, 1), 0);
    }

    // ---- promise 29

    /** The seed with which the first turn computes this r; so a test can choose what the turn does. */
    private static long seedOf(int r) {
        long inverse = FACTOR;
        for (int i = 0; i < 6; i++) {
            inverse *= 2 - FACTOR * inverse;
        }
        return (((long) r << 33) - SUMMAND) * inverse;
    }

    private static int turn(int kind, int c, int v) {
        return kind + 8 * c + 64 * v;
    }

    private static void oneTurn(String text, int r, int due) {
        Check.asks("simulate of one turn with r = " + r + " of " + text, line(text), due, x -> x.simulate(seedOf(r), 1));
    }

    /** "m: number of turns, 1 to 99", "seed: any long" */
    private static void promise29Range() {
        for (int m : new int[] {0, -1, 100, Integer.MIN_VALUE, Integer.MAX_VALUE}) {
            for (long seed : new long[] {0, 1, -1, Long.MAX_VALUE, Long.MIN_VALUE}) {
                Check.refusal("simulate(" + seed + ", " + m + ")", BUSY, ARGUMENT, x -> x.simulate(seed, m));
            }
        }
        for (int m : new int[] {1, 2, 98, 99}) {
            for (long seed : new long[] {0, 1, -1, Long.MAX_VALUE, Long.MIN_VALUE}) {
                Supplier<LateCarries> made = line("0000/2+1>12-/02");
                int due = Lines.played(made.get(), seed, m);
                Check.asks("simulate(" + seed + ", " + m + ")", made, due, x -> x.simulate(seed, m));
            }
        }
    }

    /** "By r % 8: 0 to 2: draw(c). 3: add(c, [...]). 4: add(c, -[...]). 5: pour(c, [...]). 6 and 7: nothing." */
    private static void promise29Kinds() {
        // behind the turn's beat: a drawn 02 has its carry at place 1, three added have one at place 0
        for (int kind = 0; kind <= 2; kind++) {
            oneTurn("02/00/00", turn(kind, 0, 0), 1);
            oneTurn("02/00/00", turn(kind, 1, 0), 0);
            oneTurn("00/02/00", turn(kind, 1, 0), 1);
            oneTurn("00/00/02", turn(kind, 2, 3), 1);
        }
        oneTurn("000/00", turn(3, 0, 26), 3);
        oneTurn("000/00", turn(4, 0, 26), 3);
        oneTurn("222-/00", turn(3, 0, 1), 0);
        oneTurn("000+/00", turn(4, 0, 1), 0);
        // what is poured waits, and one of each is taken up
        oneTurn("22/00", turn(5, 0, 0), 2);
        oneTurn("12/00", turn(5, 0, 0), 1);
        oneTurn("00/22", turn(5, 1, 0), 2);
        oneTurn("00/22", turn(5, 0, 0), 0);
        for (int kind = 6; kind <= 7; kind++) {
            oneTurn("22/22", turn(kind, 0, 26), 0);
            oneTurn("0++0/0--", turn(kind, 1, 26), 2);
        }
    }

    /** "c is r / 8 % (the number of counters)", "r / 64 % 81", "(c + 1) % (the number of counters)" */
    private static void promise29Numbers() {
        oneTurn("0000/0", turn(3, 0, 80), 4);
        oneTurn("0000/0", turn(3, 0, 81), 0);
        oneTurn("0000/0", turn(3, 0, 82), 0);
        oneTurn("0000/0", turn(3, 0, 161), 4);
        oneTurn("0000/0", turn(3, 0, 162), 0);
        oneTurn("0000/0", turn(4, 0, 80), 4);
        oneTurn("0000/0", turn(4, 0, 81), 0);
        // r / 8 is c and 8 times v: with two counters all that is even is 0, with six 8 is 2
        oneTurn("02/00", turn(0, 2, 0), 1);
        oneTurn("02/00", turn(0, 3, 0), 0);
        oneTurn("00/00/02/00/00/00", turn(0, 0, 1), 1);
        oneTurn("00/00/00/00/00/02", turn(0, 5, 0), 1);
        oneTurn("02/00/00/00/00/00", turn(0, 6, 0), 1);
        // the last one is poured into the first one
        oneTurn("00/0/0/0/0/22", turn(5, 5, 0), 2);
        oneTurn("22/00/0/0/0/00", turn(5, 0, 0), 2);
        // the greatest r of all: a first bit that is 1 is no sign
        int most = Integer.MAX_VALUE;
        oneTurn("0+++/0", most, 1);
        // 201 in the base of three is added to counter 0
        oneTurn("222/22/000", most - 4, 2);
        int c = most / 8 % 2;
        oneTurn(c == 0 ? "02/00" : "00/02", most - 7, 1);
        Check.same("the draw of the greatest", c, 1);
    }

    /** "What would throw an exception is left out. Then a beat goes by." */
    private static void promise29LeftOut() {
        oneTurn("0", turn(3, 0, 2), 1);
        oneTurn("0", turn(3, 0, 3), 0);
        oneTurn("0", turn(4, 0, 2), 1);
        oneTurn("0", turn(4, 0, 3), 0);
        oneTurn("000", turn(3, 0, 26), 3);
        oneTurn("000", turn(3, 0, 27), 0);
        oneTurn("0++", turn(3, 0, 3), 1);
        oneTurn("22", turn(5, 0, 0), 0);
        oneTurn("2++", turn(5, 0, 0), 1);
        Supplier<LateCarries> full = () -> {
            LateCarries x = Lines.of("2/2/02");
            for (int i = 0; i < 40; i++) {
                x.draw(i % 2);
            }
            x.beats(50);
            return x;
        };
        Supplier<LateCarries> nearly = () -> {
            LateCarries x = full.get();
            Lines.type(x, "2/2/02");
            x.load();
            for (int i = 0; i < 39; i++) {
                x.draw(i % 2);
            }
            x.beats(50);
            return x;
        };
        for (int kind = 0; kind <= 2; kind++) {
            long seed = seedOf(turn(kind, 2, 0));
            Check.asks("a 41st ticket, with its carry", full, 0, x -> x.simulate(seed, 1));
            Check.asks("a 40th ticket, with its carry", nearly, 1, x -> x.simulate(seed, 1));
        }
        Check.asks("99 turns with 40 tickets", full, Lines.played(full.get(), 5, 99), x -> x.simulate(5, 99));
        Check.asks("99 turns with 39 tickets", nearly, Lines.played(nearly.get(), 5, 99), x -> x.simulate(5, 99));
    }

    /** "Returns 1000 * (the doubles that come in them) + (the places at which something waits at the end)." */
    private static void promise29DoublesThatCome() {
        for (int tickets = 0; tickets < 40; tickets += 13) {
            int there = tickets;
            Supplier<LateCarries> made = () -> {
                LateCarries x = Lines.of("2-/1");
                for (int i = 0; i < there; i++) {
                    x.draw(0);
                }
                return x;
            };
            int left = tickets == 0 ? 0 : 1;
            Check.asks("as many as there are alike", made, 1000 * there + left, x -> x.simulate(seedOf(0), 1));
            Check.asks("none without a ticket", made, left, x -> x.simulate(seedOf(7), 1));
            Check.asks("none with the ticket of another", made, left, x -> x.simulate(seedOf(turn(1, 1, 0)), 1));
        }
        LateCarries most = Lines.of("0/0/0/0/0/0");
        for (int c = 0; c < 6; c++) {
            most.resize(c, 9);
            most.add(c, 19682);
        }
        Check.same("54 places at which something waits", most.simulate(seedOf(7), 1), 54);
    }

    /** "replaces x by x * 6364136223846793005L + 1442695040888963407L (with long overflow)" */
    private static void promise29LongSeeds() {
        String[] texts = {"0", "2+", "0000/0000/0000", "2+2-1>0+/12--/222>0>1", "222222222+>222222222/0->1"};
        long[] seeds = {Long.MIN_VALUE, Long.MIN_VALUE + 1, -1, 0, 1, Long.MAX_VALUE - 1, Long.MAX_VALUE, 1L << 32, 1L << 33};
        for (String text : texts) {
            for (long seed : seeds) {
                for (int m : new int[] {1, 3, 40, 99}) {
                    int due = Lines.played(Lines.of(text), seed, m);
                    Check.same("simulate(" + seed + ", " + m + ") of " + text, Lines.of(text).simulate(seed, m), due);
                }
            }
        }
    }
}
