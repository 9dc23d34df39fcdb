/** Compares answers with those that are due, and ends the test by them. */
final class Due {
    private static int wrong = 0;
    private static int asked = 0;
    private static String sentence = "";

    private Due() {
    }

    /** What follows tests this sentence of a section (W0, T0 to T4, P1 to P28); SentencesTest looks it up. */
    static void says(String section, String quote) {
        sentence = section + " [" + quote + "] ";
    }

    static void due(String call, long got, long want) {
        asked++;
        if (got != want) {
            wrong++;
            System.out.println(sentence + call + " answered " + got + ", due is " + want);
        }
    }

    static void holds(String what, boolean good) {
        asked++;
        if (!good) {
            wrong++;
            System.out.println(sentence + "does not hold: " + what);
        }
    }

    static int wrong() {
        return wrong;
    }

    static void end() {
        System.out.println(asked + " answers, " + wrong + " not as due");
        if (wrong != 0 || asked == 0) {
            System.exit(1);
        }
    }

    /** Feeds a text, eight bytes at a time: an object has 512 calls, no more. */
    static void tape(RopeRound x, String text) {
        for (int i = 0; i < text.length(); i += 8) {
            String part = text.substring(i, Math.min(i + 8, text.length()));
            long w = 0;
            for (int j = 0; j < part.length(); j++) {
                w = w << 8 | part.charAt(j) & 255;
            }
            x.feed(w, part.length());
        }
    }

    static int read(RopeRound x, String text) {
        tape(x, text);
        return x.ground();
    }

    /** A new object on the ground that a text tells, which must be a good one. */
    static RopeRound on(String text) {
        RopeRound x = new RopeRound();
        holds("a ground is read: " + text, read(x, text) > 0);
        return x;
    }

    /** A row of bytes with these items. */
    static void fill(RopeRound x, int row, int... items) {
        x.row(row, 0, items.length);
        for (int i = 0; i < items.length; i++) {
            x.set(row, i, items[i]);
        }
    }

    /** Steps told by the letters N, E, S, W. */
    static int[] steps(String letters) {
        int[] ways = new int[letters.length()];
        for (int i = 0; i < ways.length; i++) {
            ways[i] = "NESW".indexOf(letters.charAt(i));
        }
        return ways;
    }

    static int judge(RopeRound x, int man, String letters) {
        fill(x, 7, steps(letters));
        return x.judge(man, 7, 0, letters.length());
    }

    static int lay(RopeRound x, int man, String letters) {
        fill(x, 7, steps(letters));
        return x.lay(man, 7, 0, letters.length());
    }
}
