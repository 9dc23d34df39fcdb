/** Terms 3 and 4 on KINDS and ASKS, and promises 21 to 28, sentence by sentence, at each bound. */
public final class AskEdgeTest {
    private static final int NONE = -1000000, BAD = -1000001, STATE = -1000002;
    private static final int KIND = -1000013;
    private static final int MIN = Integer.MIN_VALUE, MAX = Integer.MAX_VALUE;

    /** Worth 6 and 7 in no ring, worth 6, 7 and 9 and water that man 1 can go round, water that he does not. */
    private static final String FIELD = "row ghw;row ghw;row jaa;man 0 0 0;man 0 1 12;";
    private static final String ROUND = "EEESWWSWNN";

    private AskEdgeTest() {
    }

    private static void due(String call, long got, long want) {
        Due.due(call, got, want);
    }

    public static void main(String[] args) {
        kinds();
        toldAs();
        nearestKind();
        sizes();
        marks();
        traceOfBodies();
        image();
        restore();
        kindRefused();
        as();
        asRefused();
        ask();
        trace();
        count();
        status();
        Due.end();
    }

    private static RopeRound ringed() {
        RopeRound x = Due.on(FIELD);
        due("laid", Due.lay(x, 1, ROUND), 6 + 7 + 9);
        return x;
    }

    private static void isAlso(RopeRound x, int cell, int... kinds) {
        for (int kind = 0; kind < 6; kind++) {
            boolean is = false;
            for (int k : kinds) {
                is = is || k == kind;
            }
            due(cell + " as " + kind, x.as(cell, kind), is ? cell : KIND);
        }
    }

    private static void kinds() {
        Due.says("T3", "KINDS of CELLS: 0 CELL; 1 LAND, a CELL; 2 WATER, a CELL; 3 RINGED, a LAND one: in a RING; 4 RICH, a "
                + "LAND one: worth 7 and more; 5 TAKEN, a RINGED one: worth 7 and more.");
        RopeRound x = ringed();
        isAlso(x, 0, 0, 1);
        isAlso(x, 1, 0, 1, 4);
        isAlso(x, 2, 0, 2);
        isAlso(x, 7, 0, 1, 3);
        isAlso(x, 8, 0, 1, 3, 5);
        isAlso(x, 9, 0, 2);
        isAlso(x, 14, 0, 1, 3, 5);
        isAlso(x, 15, 0, 1);
        x.lift(1);
        isAlso(x, 7, 0, 1);
        isAlso(x, 8, 0, 1, 4);
        isAlso(x, 14, 0, 1, 4);
    }

    private static void toldAs() {
        Due.says("T3", "It is told as TAKEN, else RINGED, else RICH, else LAND; WATER also in a RING: by this it is asked.");
        RopeRound x = ringed();
        int[][] cells = {{0, 1}, {1, 4}, {2, 2}, {7, 3}, {8, 5}, {9, 2}, {14, 5}, {15, 1}};
        for (int[] cell : cells) {
            due("kind of " + cell[0], x.kind(cell[0]), cell[1]);
        }
        due("the water in it is in the ring", x.whose(9), 1);
        due("and asked as water", x.ask(9, 1), 9 - 0 - 500);
        for (char c = 'a'; c <= 'j'; c++) {
            x = Due.on("row " + c + ";man 0 0 4;");
            due("kind of " + c, x.kind(0), c < 'h' ? 1 : 4);
            Due.lay(x, 0, "ESWN");
            due("kind of " + c + " in a ring", x.kind(0), c < 'h' ? 3 : 5);
        }
    }

    private static void asked(RopeRound x, int cell, int what, int answer, int... bodies) {
        String call = "ask " + cell + " " + what;
        due(call, x.ask(cell, what), answer);
        for (int i = 0; i < bodies.length; i++) {
            due("trace " + i + " of " + call, x.trace(i), bodies[i]);
        }
        for (int i = bodies.length; i <= 16; i++) {
            due("no trace " + i + " of " + call, x.trace(i), NONE);
        }
    }

    private static void nearestKind() {
        Due.says("T4", "(Of an ask the BODY told for the KIND begins, else that of the nearest KIND that it is, too, else the "
                + "one that is lent; SIZE, MARK within others are asked of the same CELL anew.)");
        RopeRound x = ringed();
        asked(x, 0, 1, 0, 20);
        asked(x, 2, 0, 0, 10);
        asked(x, 8, 1, 108, 22, 20);
        asked(x, 1, 0, 7 - 1 + 1000, 13, 11, 10, 23, 20);
        asked(x, 7, 0, 2 * (6 + 107), 12, 11, 10, 22, 20);
        asked(x, 8, 0, -2 * (7 + 108), 14, 12, 11, 10, 22, 20);
    }

    private static void sizes() {
        Due.says("T4", "0 SIZE: 10 lent to all CELLS: its worth. 11 of LAND ones: what 10 gives, and MARK. 12 of RINGED ones: "
                + "what 11 gives, twice. 13 of RICH ones: what 11 gives, and 1000. 14 of TAKEN ones: 0 less what 12 gives.");
        RopeRound x = ringed();
        int[][] cells = {{0, 6}, {1, 1006}, {2, 0}, {7, 226}, {8, -230}, {9, 0}, {14, -2 * (9 + 114)}, {15, 15}, {16, 16}};
        for (int[] cell : cells) {
            due("size of " + cell[0], x.ask(cell[0], 0), cell[1]);
        }
        x = Due.on("row aaaaaaa;row aaaaaaa;row aaaaaaa;row aaaaaaa;row aaaaaaa;row aaaaaaj;man 7 6 4;");
        due("the last cell", x.ask(41, 0), 9 - 41 + 1000);
        Due.lay(x, 0, "NWSE");
        due("the last cell, taken by man 0", x.ask(41, 0), -2 * (9 + 41));
    }

    private static void marks() {
        Due.says("T4", "1 MARK: 20 lent to all CELLS: x and 7 y. 21 of WATER: what 20 gives, less SIZE, less 500. 22 of RINGED "
                + "ones: what 20 gives, and 100 times the MAN whose RING it is. 23 of RICH ones: 0 less what 20 gives.");
        RopeRound x = ringed();
        int[][] cells = {{0, 0}, {1, -1}, {2, -498}, {7, 107}, {8, 108}, {9, -491}, {14, 114}, {15, 15}, {16, 16}};
        for (int[] cell : cells) {
            due("mark of " + cell[0], x.ask(cell[0], 1), cell[1]);
        }
        x = Due.on("row bw;man 0 0 0;man 0 0 0;man 0 0 0;man 0 0 4;");
        Due.lay(x, 3, "EESWWN");
        due("man 3", x.ask(0, 1), 300);
        due("water in his ring", x.ask(1, 1), -499);
        asked(x, 1, 1, -499, 21, 20, 10);
        x = Due.on("row j;man 0 0 4;");
        due("rich, the first cell", x.ask(0, 1), 0);
    }

    private static void traceOfBodies() {
        Due.says("T4", "ASKS of CELLS, by BODIES, each of which leaves its number in THE TRACE as it begins (the first 16):");
        RopeRound x = ringed();
        asked(x, 0, 0, 6, 11, 10, 20);
        asked(x, 14, 0, -246, 14, 12, 11, 10, 22, 20);
        asked(x, 2, 1, -498, 21, 20, 10);
        asked(x, 15, 1, 15, 20);
    }

    private static void image() {
        Due.says("P21", "An IMAGE (0, 1) is kept of the GROUND with RINGS: 1.");
        RopeRound x = ringed();
        due("0", x.image(0), 1);
        x.lift(1);
        due("1", x.image(1), 1);
        due("restored 0", x.restore(0), 1);
        due("with the ring", x.count(5), 1);
        due("restored 1", x.restore(1), 1);
        due("without", x.count(5), 0);
        due("anew, in place of the first", x.image(0), 1);
        x.restore(0);
        due("without it, too", x.count(5), 0);
        Due.says("P21", "BAD; STATE: no GROUND.");
        int[] noImages = {-1, 2, MIN, MAX};
        for (int k : noImages) {
            due("k " + k, x.image(k), BAD);
            due("k " + k + " ahead of STATE", new RopeRound().image(k), BAD);
        }
        RopeRound empty = new RopeRound();
        due("no ground, 0", empty.image(0), STATE);
        due("no ground, 1", empty.image(1), STATE);
        due("none was kept by it", empty.restore(0), STATE);
        Due.read(empty, "?");
        due("no ground by a fault", empty.image(0), STATE);
    }

    private static void restore() {
        Due.says("P22", "These are as an IMAGE kept them: 1.");
        RopeRound x = ringed();
        x.image(0);
        due("foretold with the ring", x.most(8, 12, -2), 13);
        due("another ground", Due.read(x, "row b;stone 1 1;man 0 0 4;"), 1);
        due("a row", x.row(3, 0, 2), 2);
        Due.tape(x, "row");
        x.ask(0, 1);
        due("back", x.restore(0), 1);
        int[] counts = {2, 3, 3, 0, 2, 1, 3};
        for (int what = 0; what < counts.length; what++) {
            due("count " + what, x.count(what), counts[what]);
        }
        due("his ring", x.man(1, 2), 22);
        due("its cells", x.man(1, 3), 4);
        due("his peg", x.man(1, 0), 8);
        due("his rope", x.man(1, 1), 12);
        due("rope runs there", x.takes(8, 1), 0);
        due("kind", x.kind(14), 5);
        due("the trace stays", x.trace(0), 20);
        x.lift(1);
        due("foretold without it", x.most(8, 12, -2), 35);
        due("as often as one likes", x.restore(0), 1);
        due("foretold with it again", x.most(8, 12, -2), 13);
        due("the ring again", x.whose(14), 1);
        Due.says("P22", "BAD; STATE: none was kept.");
        int[] noImages = {-1, 2, MIN, MAX};
        for (int k : noImages) {
            due("k " + k, x.restore(k), BAD);
        }
        due("1 was not kept", x.restore(1), STATE);
        x.image(1);
        due("now it is", x.restore(1), 1);
        due("a new object has none", new RopeRound().restore(1), STATE);
    }

    private static void kindRefused() {
        Due.says("P23", "The KIND of a CELL, as told (1 to 5).");
        RopeRound x = ringed();
        int[] told = {0, 2, 7, 1, 8};
        for (int i = 0; i < told.length; i++) {
            due("kind of " + told[i], x.kind(told[i]), i + 1);
        }
        Due.says("P23", "BAD.");
        int[] noCells = {-1, 3, 6, 10, 21, 42, MIN, MAX};
        for (int cell : noCells) {
            due("cell " + cell, x.kind(cell), BAD);
        }
        due("no ground", new RopeRound().kind(0), BAD);
    }

    private static void as() {
        Due.says("P24", "A CELL is taken as one of a KIND (0 .. 5): x and 7 y.");
        RopeRound x = ringed();
        due("the first", x.as(0, 0), 0);
        due("the last", x.as(16, 0), 16);
        due("the last kind", x.as(14, 5), 14);
        x = Due.on("row aaaaaaa;".repeat(6) + "man 0 0 0;");
        due("the last that can be", x.as(41, 1), 41);
    }

    private static void asRefused() {
        Due.says("P24", "BAD; KIND: it is no such one.");
        RopeRound x = ringed();
        int[] noKinds = {-1, 6, MIN, MAX};
        for (int kind : noKinds) {
            due("kind " + kind, x.as(0, kind), BAD);
        }
        int[] noCells = {-1, 3, 6, 10, 21, 42, MIN, MAX};
        for (int cell : noCells) {
            due("cell " + cell, x.as(cell, 0), BAD);
            due("BAD ahead of KIND", x.as(cell, 2), BAD);
        }
        due("land is no water", x.as(0, 2), KIND);
        due("water is no land", x.as(2, 1), KIND);
        due("6 is not rich", x.as(0, 4), KIND);
        due("not in a ring", x.as(0, 3), KIND);
        due("rich, not taken", x.as(1, 5), KIND);
        due("ringed, not taken", x.as(7, 5), KIND);
        due("taken, not rich", x.as(8, 4), KIND);
        due("water in a ring is not ringed", x.as(9, 3), KIND);
        due("no ground", new RopeRound().as(0, 0), BAD);
    }

    private static void ask() {
        RopeRound x = ringed();
        Due.says("P25", "An ASK (0, 1) of a CELL.");
        due("size", x.ask(0, 0), 6);
        due("mark", x.ask(16, 1), 16);
        Due.says("P25", "THE TRACE is empty ahead of it.");
        asked(x, 8, 0, -230, 14, 12, 11, 10, 22, 20);
        asked(x, 0, 1, 0, 20);
        Due.says("P25", "BAD.");
        int[] noCells = {-1, 3, 6, 10, 21, 42, MIN, MAX};
        for (int cell : noCells) {
            due("cell " + cell, x.ask(cell, 0), BAD);
        }
        int[] noAsks = {-1, 2, MIN, MAX};
        for (int what : noAsks) {
            due("what " + what, x.ask(8, what), BAD);
        }
        due("what is refused leaves the trace", x.trace(0), 20);
        due("to its end", x.trace(1), NONE);
        due("no ground", new RopeRound().ask(0, 0), BAD);
    }

    private static void trace() {
        Due.says("P26", "Number i of THE TRACE; NONE.");
        RopeRound x = ringed();
        due("none yet", x.trace(0), NONE);
        x.ask(8, 0);
        int[] bodies = {14, 12, 11, 10, 22, 20};
        for (int i = 0; i < bodies.length; i++) {
            due("number " + i, x.trace(i), bodies[i]);
        }
        int[] none = {-1, 6, 15, 16, 17, MIN, MAX};
        for (int i : none) {
            due("number " + i, x.trace(i), NONE);
        }
        due("it stays", x.trace(0), 14);
    }

    private static void count() {
        Due.says("P27", "How many: 0 ROWS, 1 WIDE, 2 HIGH, 3 CORNERS with a stone, 4 MEN, 5 RINGS, 6 bytes on the tape.");
        RopeRound x = new RopeRound();
        for (int what = 0; what < 7; what++) {
            due("none of " + what, x.count(what), 0);
        }
        String stones = "stone 7 0;stone 7 1;stone 7 2;stone 7 3;stone 7 4;stone 7 5;stone 7 6;stone 6 6;";
        due("the most", Due.read(x, "row wwwwwww;".repeat(6) + stones + "man 0 0 1;man 1 1 1;man 2 2 1;man 3 3 4;"), 4);
        for (int row = 0; row < 8; row++) {
            x.row(row, 0, row == 7 ? 4 : 0);
        }
        int[] ways = Due.steps("ESWN");
        for (int i = 0; i < 4; i++) {
            x.set(7, i, ways[i]);
        }
        due("man 3 lays", x.lay(3, 7, 0, 4), 0);
        Due.tape(x, " ".repeat(300));
        int[] most = {8, 7, 6, 8, 4, 1, 300};
        for (int what = 0; what < most.length; what++) {
            due("the most of " + what, x.count(what), most[what]);
        }
        Due.says("P27", "BAD.");
        int[] noWhats = {-1, 7, MIN, MAX};
        for (int what : noWhats) {
            due("what " + what, x.count(what), BAD);
        }
    }

    private static void status() {
        Due.says("P28", "Of the latest call with a ROW, or as(), that was not BAD, STATE, FULL: the number of its FINDING; 0: it "
                + "had none, or there was none.");
        RopeRound x = new RopeRound();
        due("there was none", x.status(), 0);
        x = ringed();
        x.row(0, 0, -1);
        due("4 SIZE", x.status(), 4);
        due("once more", x.status(), 4);
        x.feed(32, 1);
        x.ground();
        x.takes(0, 0);
        x.man(0, 0);
        x.whose(0);
        x.most(0, 4, -2);
        x.tied(1);
        x.shares(0);
        x.least(0, 1, 0);
        x.wet(0, 0);
        x.image(0);
        x.restore(0);
        x.kind(0);
        x.ask(0, 0);
        x.trace(0);
        x.count(0);
        x.fault();
        x.lift(1);
        x.lift(1);
        due("calls without a row leave it", x.status(), 4);
        due("as", x.as(0, 1) + x.status(), 0);
        due("3 KIND", x.as(0, 2) - KIND + x.status(), 3);
        due("row", x.row(0, 0, 4) + x.status(), 4);
        x.set(0, 4, 0);
        due("2 PLACE of set", x.status(), 2);
        due("set", x.set(0, 3, 0) + x.status(), 0);
        x.set(1, 0, 0);
        due("1 NULL of set", x.status(), 1);
        due("copy", x.copy(0, 0, 0, 0, 0) + x.status(), 0);
        x.row(1, 1, 4);
        x.copy(0, 0, 1, 0, 1);
        due("5 STORE of copy", x.status(), 5);
        due("drop", x.drop(1) + x.status(), 4);
        x.drop(1);
        due("1 NULL of drop", x.status(), 1);
        due("judge, with a fault", x.judge(0, 0, 0, 0) + 1000700 + x.status(), 0);
        x.judge(0, 0, 5, 0);
        due("2 PLACE of judge", x.status(), 2);
        due("lay, with a fault", x.lay(0, 0, 0, 0) + 1000700 + x.status(), 0);
        x.lay(0, 1, 0, 0);
        due("1 NULL of lay", x.status(), 1);
        due("found", x.found(0, 0, 0, 0) + x.status(), 0);
        x.found(0, 0, 5, 0);
        due("2 PLACE of found", x.status(), 2);
        due("lay, without a fault", Due.lay(x, 1, ROUND) - 22 + x.status(), 0);
    }
}
