/** Terms 3 and promises 15 to 20, sentence by sentence: what is FORETOLD, at each bound. */
public final class ForetoldEdgeTest {
    private static final int NONE = -1000000, BAD = -1000001;
    private static final int NULL = -1000011, PLACE = -1000012;
    private static final int MIN = Integer.MIN_VALUE, MAX = Integer.MAX_VALUE;

    /** Four by four cells of worth 1: by four, six, eight, ten, twelve of rope one goes round 1, 2, 4, 6, 9. */
    private static final String SQUARE = "row bbbb;row bbbb;row bbbb;row bbbb;";
    private static final int[] BY_ROPE = {0, 0, 0, 0, 1, 1, 2, 2, 4, 4, 6, 6, 9};

    private ForetoldEdgeTest() {
    }

    private static void due(String call, long got, long want) {
        Due.due(call, got, want);
    }

    public static void main(String[] args) {
        ringsLie();
        mostByRope();
        mostFirstBySteps();
        most();
        mostRefused();
        tied();
        tiedSets();
        shares();
        sharesOfThree();
        sharesRefused();
        leastOfSteps();
        least();
        leastRefused();
        wet();
        wetRefused();
        found();
        foundTold();
        foundRefused();
        Due.end();
    }

    private static void ring(RopeRound x, int corner, int l, int worth, String letters) {
        String call = "most " + corner + " " + l + " ";
        due(call + -2, x.most(corner, l, -2), worth);
        due(call + -1, x.most(corner, l, -1), letters.length());
        int[] ways = Due.steps(letters);
        for (int k = 0; k < ways.length; k++) {
            due(call + k, x.most(corner, l, k), ways[k]);
        }
        due(call + ways.length, x.most(corner, l, ways.length), NONE);
    }

    private static void noRing(RopeRound x, int corner, int l) {
        for (int k = -2; k <= 12; k++) {
            due("most " + corner + " " + l + " " + k, x.most(corner, l, k), NONE);
        }
    }

    private static void ringsLie() {
        Due.says("T3", "FORETOLD (nothing changes; other RINGS lie as they do).");
        RopeRound x = Due.on("row bbb;row bbb;man 0 0 4;man 3 2 9;man 0 0 4;");
        Due.lay(x, 0, "ESWN");
        due("not into a ring", x.most(0, 12, -2), NONE);
        due("rope saved along it", x.most(9, 5, -2), 2);
        due("none saved where it is not", x.most(19, 5, -2), 1);
        due("the men together", x.tied(5), 0);
        due("the other one, along it", x.tied(2), 5);
        due("found by him who has one", Due.judge(x, 2, "ESWN"), -1000804);
        x.row(0, 0, 0);
        due("none is found", x.found(0, 0, 0, 0), 0);
        due("none by the other at that peg", x.found(2, 0, 0, 0), 0);
        due("wet: none, and none", x.wet(2, 100), 0);
        due("the ring is still there", x.count(5), 1);
        due("and what was not is not", x.man(1, 2), NONE);
        x.lift(0);
        due("into it when it is up", x.most(0, 12, -2), 6);
    }

    private static void mostByRope() {
        Due.says("T3", "MOST from a CORNER (where no stone is) by L (0 to 12) of rope: of all LAYINGS from there without a "
                + "FAULT, of 12 STEPS at most,");
        RopeRound x = Due.on(SQUARE + "man 0 0 0;");
        for (int l = 0; l <= 12; l++) {
            due("land by " + l, x.most(0, l, -2), l < 4 ? NONE : BY_ROPE[l]);
            due("land by " + l + " from the last corner", x.most(36, l, -2), l < 4 ? NONE : BY_ROPE[l]);
        }
        x = Due.on("row w;man 0 0 0;");
        ring(x, 0, 0, 0, "ESWN");
        ring(x, 9, 0, 0, "NWSE");
        x = Due.on("row wwwwwb;man 0 0 12;");
        ring(x, 0, 0, 0, "EEEEESWWWWWN");
        ring(x, 0, 12, 0, "EEEEESWWWWWN");
        due("by twelve steps, three of rope", x.most(1, 3, -2), 0);
        ring(x, 1, 4, 1, "EEEEESWWWWWN");
        x = Due.on("row bb;stone 1 0;stone 1 1;man 0 0 12;");
        noRing(x, 0, 12);
    }

    private static void mostFirstBySteps() {
        Due.says("T3", "one of most worth, of several the first by STEPS, one behind the other; NONE: there is none.");
        RopeRound x = Due.on("row bb;row bb;man 1 1 4;");
        ring(x, 9, 4, 1, "NESW");
        ring(x, 9, 6, 2, "NESSWN");
        ring(x, 0, 8, 4, "EESSWWNN");
        ring(x, 18, 8, 4, "NNWWSSEE");
        x = Due.on("row ac;row ba;man 1 1 4;");
        ring(x, 9, 4, 2, "NESW");
        x = Due.on("row ca;row ab;man 1 1 4;");
        ring(x, 9, 4, 2, "NWSE");
        x = Due.on("row aa;row ca;man 1 1 4;");
        ring(x, 9, 4, 2, "SWNE");
        x = Due.on("row aaa;man 0 0 12;");
        ring(x, 0, 12, 0, "EEESWWWN");
        ring(x, 0, 7, 0, "EESWWN");
        x = Due.on("row a;stone 1 1;man 0 0 12;");
        noRing(x, 0, 12);
        x = Due.on("row a;man 0 0 12;");
        noRing(x, 0, 3);
        ring(x, 0, 4, 0, "ESWN");
    }

    private static void most() {
        Due.says("P15", "MOST: worth (k = -2), STEPS (-1), the k-th; NONE: there is none, not so many.");
        RopeRound x = Due.on("row bb;row ww;man 0 0 12;");
        due("worth", x.most(0, 12, -2), 2);
        due("steps", x.most(0, 12, -1), 8);
        due("the first", x.most(0, 12, 0), 1);
        due("the last", x.most(0, 12, 7), 0);
        due("not so many: 8", x.most(0, 12, 8), NONE);
        due("not so many: max", x.most(0, 12, MAX), NONE);
        due("none: its worth", x.most(0, 0, -2), NONE);
        due("none: its steps", x.most(0, 0, -1), NONE);
        due("none: its first", x.most(0, 0, 0), NONE);
        due("none: max", x.most(0, 0, MAX), NONE);
        x = Due.on("row bbb;row bbb;row bbb;man 0 0 12;");
        due("the twelfth", x.most(0, 12, 11), 0);
        due("no thirteenth", x.most(0, 12, 12), NONE);
    }

    private static void mostRefused() {
        Due.says("P15", "BAD: a CORNER with a stone, k below -2.");
        RopeRound x = Due.on("row bb;row ww;stone 2 1;man 0 0 12;");
        due("a stone", x.most(10, 12, -2), BAD);
        due("none", x.most(0, 2, -2), NONE);
        due("BAD ahead of NONE", x.most(0, 2, -3), BAD);
        int[] noSteps = {-3, -4, MIN};
        for (int k : noSteps) {
            due("k " + k, x.most(0, 12, k), BAD);
        }
        int[] noRopes = {-1, 13, MIN, MAX};
        for (int l : noRopes) {
            due("l " + l, x.most(0, l, -2), BAD);
        }
        int[] noCorners = {-1, 3, 11, 24, 64, MIN, MAX};
        for (int corner : noCorners) {
            due("corner " + corner, x.most(corner, 12, -2), BAD);
        }
        due("no ground", new RopeRound().most(0, 0, 0), BAD);
    }

    private static void tied() {
        Due.says("T3", "TIED: of a set of MEN: the worth of MOST by all their ropes together (12 at most) from the peg of "
                + "the least of them; 0: there is none.");
        int[][] ropes = {{0, 0}, {0, 3}, {2, 2}, {5, 6}, {6, 6}, {6, 7}, {12, 1}, {12, 12}};
        for (int[] pair : ropes) {
            RopeRound x = Due.on(SQUARE + "man 0 0 " + pair[0] + ";man 4 4 " + pair[1] + ";");
            due(pair[0] + " alone", x.tied(1), BY_ROPE[pair[0]]);
            due(pair[1] + " alone", x.tied(2), BY_ROPE[pair[1]]);
            due(pair[0] + " and " + pair[1], x.tied(3), BY_ROPE[Math.min(12, pair[0] + pair[1])]);
        }
        RopeRound x = Due.on(SQUARE + "man 0 0 12;man 0 4 12;man 4 0 12;man 4 4 12;");
        due("four times twelve", x.tied(15), 9);
        x = Due.on("row baaaac;row aaaaaa;man 6 0 2;man 0 0 2;man 0 2 1;");
        due("from the least one's peg", x.tied(3), 2);
        due("from the next one's", x.tied(6), 0);
        due("from man 0's, with man 2", x.tied(5), 0);
        due("all", x.tied(7), 2);
        x = Due.on("row j;stone 1 1;man 0 0 12;");
        due("there is none", x.tied(1), 0);
    }

    private static void tiedSets() {
        for (int men = 1; men <= 4; men++) {
            RopeRound x = Due.on("row b;" + "man 0 0 4;".repeat(men));
            Due.says("P16", "TIED (a set 1 and on of MEN there are).");
            for (int set = 1; set < 1 << men; set++) {
                due("set " + set + " of " + men, x.tied(set), 1);
            }
            Due.says("P16", "BAD.");
            int[] noSets = {0, 1 << men, (1 << men) + 1, 16, 17, -1, MIN, MAX};
            for (int set : noSets) {
                due("set " + set + " of " + men, x.tied(set), BAD);
            }
        }
        due("no men", new RopeRound().tied(1), BAD);
        due("no men, no set", new RopeRound().tied(0), BAD);
    }

    private static void sharesAre(String text, int... want) {
        RopeRound x = Due.on(text);
        for (int man = 0; man < want.length; man++) {
            due(text + " share of " + man, x.shares(man), want[man]);
        }
    }

    private static void shares() {
        Due.says("T3", "SHARES: all MEN, three at most: whole numbers, one for each, that are TIED of all together, and for "
                + "each set of MEN no less together than TIED of it:");
        sharesAre("row j;man 0 0 4;", 9);
        sharesAre("row j;man 0 0 3;", 0);
        sharesAre("row bb;man 0 0 4;man 2 0 4;", 1, 1);
        sharesAre("row baab;man 0 0 4;man 4 0 4;", NONE, NONE);
        sharesAre("row baab;man 0 0 4;man 4 0 3;", 1, 0);
        sharesAre("row baab;man 0 0 0;man 4 0 4;", 0, 1);
        sharesAre("row j;man 0 0 0;man 0 0 0;man 0 0 0;", 0, 0, 0);
        sharesAre("row j;man 0 0 0;man 0 0 4;man 0 0 0;", 0, 9, 0);
        sharesAre("row j;man 0 0 4;man 0 0 4;man 0 0 4;", NONE, NONE, NONE);
    }

    private static void sharesOfThree() {
        Due.says("T3", "of several those in which MAN 0 has least, then MAN 1; NONE.");
        sharesAre(SQUARE + "man 0 0 4;man 4 4 8;", 1, 8);
        sharesAre(SQUARE + "man 0 0 2;man 4 4 2;", 0, 1);
        sharesAre(SQUARE + "man 0 0 4;man 4 4 4;man 4 0 4;", 1, 3, 5);
        sharesAre(SQUARE + "man 0 0 6;man 4 4 6;man 4 0 6;", NONE, NONE, NONE);
        sharesAre(SQUARE + "man 0 0 0;man 4 4 0;man 4 0 12;", 0, 0, 9);
        // All together have 10, each alone 5: no two men would leave, but one would.
        sharesAre("row faaaf;man 0 0 4;man 5 0 4;man 5 1 4;", NONE, NONE, NONE);
        // All together have 10, each two 7 and more: nobody alone would leave, but two would.
        sharesAre("row adeda;man 0 0 4;man 5 0 4;man 5 1 4;", NONE, NONE, NONE);
        sharesAre(SQUARE + "man 0 0 0;man 4 4 2;man 4 0 10;", 0, 0, 9);
        sharesAre(SQUARE + "man 0 0 2;man 4 4 8;man 4 0 2;", 0, 6, 3);
    }

    private static void sharesRefused() {
        Due.says("P17", "SHARES: that of a man; NONE.");
        sharesAre("row bb;row bb;man 0 0 4;man 2 2 4;", 1, 3);
        sharesAre("row jaaj;man 0 0 4;man 4 0 4;", NONE, NONE);
        Due.says("P17", "BAD: more than three MEN.");
        for (int men = 1; men <= 4; men++) {
            RopeRound x = Due.on("row w;" + "man 0 0 0;".repeat(men));
            for (int man = 0; man < 4; man++) {
                due(man + " of " + men, x.shares(man), man < men && men <= 3 ? 0 : BAD);
            }
            int[] noMen = {-1, 4, MIN, MAX};
            for (int man : noMen) {
                due(man + " of " + men, x.shares(man), BAD);
            }
        }
        due("no men", new RopeRound().shares(0), BAD);
    }

    private static void leastIs(String text, int left, int worth) {
        RopeRound x = Due.on(text);
        due(text + " what b has", x.least(0, 1, 0), left);
        due(text + " a's worth", x.least(0, 1, 1), worth);
    }

    private static void leastOfSteps() {
        Due.says("T3", "LEAST: MAN a lays first, 8 STEPS at most, then MAN b takes the most worth that he can, likewise 8 "
                + "STEPS at most (0: none):");
        leastIs("row aab;man 0 0 12;man 3 0 4;", 0, 1);
        leastIs("row aaab;man 0 0 12;man 4 0 4;", 1, 0);
        leastIs("row baa;row aaa;man 3 2 4;man 3 0 12;", 1, 0);
        leastIs("row baaa;row aaaa;man 4 2 4;man 4 0 12;", 0, 0);
        leastIs("row bb;man 0 0 4;man 2 0 3;", 1, 1);
        leastIs("row bb;man 0 0 4;man 2 0 2;", 0, 1);
        leastIs("row w;man 0 0 0;man 1 1 0;", 0, 0);
    }

    private static void least() {
        Due.says("T3", "a's LAYING without a FAULT by which b has least, of several that of most worth: what b has "
                + "(what = 0), a's worth (1); NONE: a has none.");
        leastIs("row jab;man 2 0 4;man 3 0 4;", 0, 1);
        leastIs("row jab;man 1 0 4;man 3 0 4;", 1, 9);
        leastIs("row cb;row da;man 1 1 4;man 2 0 4;", 0, 1);
        leastIs("row cb;row da;man 1 1 4;man 0 1 0;", 0, 3);
        leastIs("row j;man 0 0 3;man 1 0 4;", NONE, NONE);
        leastIs("row j;man 0 0 4;man 1 0 0;", 0, 9);
        leastIs("row bb;row bb;stone 0 1;stone 1 0;man 0 0 12;man 2 2 12;", NONE, NONE);
        RopeRound x = Due.on("row bbb;row bbb;man 0 0 6;man 3 2 12;man 1 0 4;");
        Due.lay(x, 2, "ESWN");
        due("along a ring: b", x.least(0, 1, 0), 2);
        due("along a ring: a", x.least(0, 1, 1), 3);
        due("nothing is laid", x.count(5), 1);
    }

    private static void leastRefused() {
        Due.says("P18", "LEAST; NONE.");
        leastIs("row bb;man 0 0 6;man 2 0 4;", 0, 2);
        leastIs("row bb;man 0 0 3;man 2 0 4;", NONE, NONE);
        Due.says("P18", "BAD: alike, a who has a RING, too.");
        RopeRound x = Due.on("row bb;man 0 0 4;man 2 0 4;man 0 0 0;");
        for (int man = 0; man < 3; man++) {
            due("alike " + man, x.least(man, man, 0), BAD);
        }
        int[] noMen = {-1, 3, 4, MIN, MAX};
        for (int man : noMen) {
            due("a " + man, x.least(man, 0, 0), BAD);
            due("b " + man, x.least(0, man, 0), BAD);
        }
        int[] noWhats = {-1, 2, MIN, MAX};
        for (int what : noWhats) {
            due("what " + what, x.least(0, 1, what), BAD);
        }
        due("BAD ahead of NONE", x.least(2, 0, 2), BAD);
        Due.lay(x, 0, "ESWN");
        due("a has a ring", x.least(0, 1, 0), BAD);
        due("a has a ring, worth", x.least(0, 1, 1), BAD);
        due("b has one", x.least(1, 0, 0), 0);
        due("b has one, worth", x.least(1, 0, 1), 1);
        x.lift(0);
        due("a has none again", x.least(0, 1, 0), 1);
        due("one man", Due.on("row b;man 0 0 4;").least(0, 1, 0), BAD);
    }

    private static void wet() {
        RopeRound x = Due.on(SQUARE + "man 0 0 12;man 0 0 10;man 0 0 4;man 0 0 0;");
        int[] ropes = {12, 10, 4, 0};
        Due.says("T3", "WET: his rope is ROPE times (100 less p) by 100: how much less the worth of MOST is from his peg by "
                + "that than by ROPE (none: 0).");
        for (int man = 0; man < 4; man++) {
            for (int p = 0; p <= 100; p += p < 20 ? 1 : 8) {
                int left = (int) Math.floor(ropes[man] * (100 - p) / 100.0 + 1e-9);
                due("man " + man + " p " + p, x.wet(man, p), BY_ROPE[ropes[man]] - BY_ROPE[left]);
            }
        }
        due("4 is 3 by 1 of 100: none", x.wet(2, 1), 1);
        due("none by either", x.wet(3, 100), 0);
        due("all of it", x.wet(0, 100), 9);
        Due.says("T0", "All that is divided is cut towards 0.");
        due("12 less 1 of 100: 11", x.wet(0, 1), 3);
        due("10 less 20 of 100: just 8", x.wet(1, 20), 2);
        due("10 less 21 of 100: 7", x.wet(1, 21), 4);
        due("12 less 66 of 100: 4.08", x.wet(0, 66), 8);
        due("12 less 67 of 100: 3.96", x.wet(0, 67), 9);
    }

    private static void wetRefused() {
        RopeRound x = Due.on("row j;man 0 0 4;man 0 0 4;");
        Due.says("P19", "WET.");
        due("dry", x.wet(1, 0), 0);
        due("by 1", x.wet(1, 1), 9);
        due("by 100", x.wet(1, 100), 9);
        Due.says("P19", "BAD.");
        int[] noMen = {-1, 2, 4, MIN, MAX};
        for (int man : noMen) {
            due("man " + man, x.wet(man, 0), BAD);
        }
        int[] noParts = {-1, 101, MIN, MAX};
        for (int p : noParts) {
            due("p " + p, x.wet(0, p), BAD);
        }
    }

    private static void found() {
        Due.says("T3", "FOUND: LAYINGS of a man without a FAULT, of 10 STEPS at most, that come to each of n told CORNERS, "
                + "and have each of m told CELLS in them: how many (by STEPS: one that goes round the other way is another "
                + "one).");
        int[] byRope = {0, 0, 0, 0, 2, 2, 4, 4, 6, 6, 8, 8, 8};
        for (int rope = 0; rope <= 12; rope++) {
            RopeRound x = Due.on("row aaaaa;man 0 0 " + rope + ";");
            x.row(0, 0, 0);
            due("all by " + rope, x.found(0, 0, 0, 0), byRope[rope]);
        }
        RopeRound x = Due.on("row aaaaa;man 0 0 12;");
        Due.fill(x, 0, 4, 3);
        due("ten steps to a corner", x.found(0, 0, 1, 0), 2);
        Due.fill(x, 0, 5, 4);
        due("twelve steps to a corner", x.found(0, 0, 1, 0), 0);
        Due.fill(x, 0, 3);
        due("ten steps round a cell", x.found(0, 0, 0, 1), 2);
        Due.fill(x, 0, 4);
        due("twelve steps round a cell", x.found(0, 0, 0, 1), 0);
        Due.fill(x, 0, 0, 8);
        due("the peg, as each comes to it", x.found(0, 0, 2, 0), 8);
        x = Due.on("row aa;row aa;stone 2 2;man 1 1 12;man 0 0 4;");
        x.row(0, 0, 1);
        due("there and back alike", x.found(1, 0, 0, 0), 2);
        x.set(0, 0, 18);
        due("a stone is a corner, nobody comes to it", x.found(0, 0, 1, 0), 0);
        Due.lay(x, 1, "ESWN");
        x.set(0, 0, 0);
        due("a cell in a ring", x.found(0, 0, 0, 1), 0);
    }

    private static void foundTold() {
        Due.says("P20", "FOUND, n CORNERS and m CELLS (0 to 6 each), ITEMS of a ROW from its beginning on.");
        RopeRound x = Due.on("row aaa;row aaa;man 0 0 10;");
        Due.fill(x, 0, 0, 3, 19, 16, 1, 2, 0, 1, 2, 7, 8, 9);
        due("six corners and six cells", x.found(0, 0, 6, 6), 2);
        due("six corners", x.found(0, 0, 6, 0), 2);
        Due.fill(x, 1, 0, 1, 2, 7, 8, 9);
        due("six cells", x.found(0, 1, 0, 6), 2);
        Due.fill(x, 1, 0, 1, 2, 7, 8);
        due("five cells are in two rings", x.found(0, 1, 0, 5), 4);
        x.row(2, 0, 0);
        int all = x.found(0, 2, 0, 0);
        Due.fill(x, 2, 0, 0, 0, 0, 0, 0);
        due("six times the peg", x.found(0, 2, 6, 0), all);
        x.row(3, 2, 40);
        x.set(3, 0, 9);
        x.set(3, 1, 9);
        x.set(3, 2, MIN);
        due("a corner, then a cell", x.found(0, 3, 1, 1), x.found(0, 3, 0, 1) - 4);
        due("what is behind them is free", x.found(0, 3, 2, 0) > 0 ? 1 : 0, 1);
    }

    private static void foundRefused() {
        Due.says("P20", "BAD: a man, ROW, n, m; NULL; PLACE; then BAD: an ITEM that is no CORNER, no CELL.");
        RopeRound x = Due.on("row aa;row aa;man 0 0 4;");
        x.row(0, 2, 12);
        int[] noMen = {-1, 1, 4, MIN, MAX};
        for (int man : noMen) {
            due("man " + man, x.found(man, 0, 0, 0), BAD);
            due("a man ahead of NULL", x.found(man, 1, 0, 0), BAD);
        }
        int[] noRows = {-1, 8, MIN, MAX};
        for (int row : noRows) {
            due("row " + row, x.found(0, row, 0, 0), BAD);
        }
        int[] noCounts = {-1, 7, MIN, MAX};
        for (int n : noCounts) {
            due("n " + n, x.found(0, 0, n, 0), BAD);
            due("m " + n, x.found(0, 0, 0, n), BAD);
            due("n ahead of NULL", x.found(0, 1, n, 0), BAD);
            due("m ahead of NULL", x.found(0, 1, 0, n), BAD);
        }
        due("NULL", x.found(0, 1, 0, 0), NULL);
        due("NULL ahead of PLACE", x.found(0, 1, 6, 6), NULL);
        x.row(2, 0, 11);
        due("PLACE", x.found(0, 2, 6, 6), PLACE);
        due("just room", x.found(0, 2, 6, 5), 2);
        x.row(3, 0, 0);
        due("none of none", x.found(0, 3, 0, 0), 2);
        due("PLACE by one corner", x.found(0, 3, 1, 0), PLACE);
        due("PLACE by one cell", x.found(0, 3, 0, 1), PLACE);
        x.set(2, 0, -1);
        due("PLACE ahead of BAD of an item", x.found(0, 2, 6, 6), PLACE);
        int[] noCorners = {-1, 3, 11, 24, 64, MIN, MAX};
        int[] noCells = {-1, 2, 9, 14, 42, MIN, MAX};
        for (int i = 0; i < noCorners.length; i++) {
            x.set(0, 5, noCorners[i]);
            due("no corner " + noCorners[i], x.found(0, 0, 6, 0), BAD);
            x.set(0, 5, noCells[i]);
            due("no cell " + noCells[i], x.found(0, 0, 0, 6), BAD);
            due("no cell behind corners " + noCells[i], x.found(0, 0, 5, 1), BAD);
        }
        x.set(0, 5, 2);
        due("a corner, no cell", x.found(0, 0, 6, 0), 0);
        x.set(0, 5, 18);
        due("the last corner", x.found(0, 0, 6, 0), 0);
        x.set(0, 5, 8);
        due("the last cell", x.found(0, 0, 0, 6), 0);
        due("no ground", new RopeRound().found(0, 0, 0, 0), BAD);
    }
}
