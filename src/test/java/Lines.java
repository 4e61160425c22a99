/** Objects for the tests: lines from texts, objects with tickets, and one in which everything is in use. */
final class Lines {
    private Lines() {
    }

    static void type(LateCarries x, String text) {
        x.clearText();
        for (int i = 0; i < text.length(); i++) {
            x.append(text.charAt(i));
        }
    }

    static LateCarries of(String text) {
        LateCarries x = new LateCarries();
        type(x, text);
        x.load();
        return x;
    }

    static LateCarries withTickets(int n) {
        LateCarries x = new LateCarries();
        for (int i = 0; i < n; i++) {
            x.draw(i % 3);
        }
        return x;
    }

    /**
     * Tickets, spilled carries, 14 remembered states that all differ, both save slots, and a text that is
     * no line: so a call that should change nothing can be seen to change nothing.
     */
    static LateCarries busy(String text) {
        LateCarries x = of(text);
        x.draw(0);
        x.save(0);
        x.setPace(3);
        x.beats(2);
        x.draw(0);
        x.save(1);
        for (int i = 0; i < 15; i++) {
            x.add(0, 1 + i % 2);
            x.setPace(i % 9 + 1);
        }
        type(x, "2+>1-x");
        return x;
    }

    /** What simulate() has to answer: its turns are played on x by the calls of the face. */
    static int played(LateCarries x, long seed, int m) {
        int ahead = x.about(6);
        long v = seed;
        for (int i = 0; i < m; i++) {
            v = v * 6364136223846793005L + 1442695040888963407L;
            int r = (int) (v >>> 33);
            int c = r / 8 % x.about(0);
            try {
                if (r % 8 <= 2) {
                    x.draw(c);
                } else if (r % 8 == 3) {
                    x.add(c, r / 64 % 81);
                } else if (r % 8 == 4) {
                    x.add(c, -(r / 64 % 81));
                } else if (r % 8 == 5) {
                    x.pour(c, (c + 1) % x.about(0));
                }
            } catch (IllegalStateException | IllegalArgumentException e) {
                // is left out
            }
            x.beats(1);
        }
        return 1000 * (x.about(6) - ahead) + x.about(5);
    }
}
