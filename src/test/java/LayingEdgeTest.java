/** Terms 2 and promises 9 to 14, sentence by sentence: CELLS, CORNERS, STEPS and LAYINGS at each bound. */
public final class LayingEdgeTest {
    private static final int NONE = -1000000, BAD = -1000001, STATE = -1000002;
    private static final int NULL = -1000011, PLACE = -1000012;
    private static final int MIN = Integer.MIN_VALUE, MAX = Integer.MAX_VALUE;

    private LayingEdgeTest() {
    }

    private static void due(String call, long got, long want) {
        Due.due(call, got, want);
    }

    /** What a LAYING with a FAULT at a STEP answers. */
    private static int faulty(int fault, int step) {
        return -1000200 - 100 * fault - step;
    }

    public static void main(String[] args) {
        cellsAndCorners();
        ways();
        ropeTaken();
        ropeTakenAlongRings();
        fromThePeg();
        leavesTheGround();
        whereTheRopeWas();
        tooLong();
        notAtThePeg();
        fewerThanFour();
        roundARing();
        whichFaultFirst();
        worth();
        becomesHisRing();
        takes();
        judge();
        judgeRefused();
        lay();
        layRefused();
        lift();
        man();
        whose();
        Due.end();
    }

    private static void cellsAndCorners() {
        Due.says("T2", "CELLS: x and 7 y; CORNERS: x and 8 y, x 0 to WIDE, y 0 to HIGH (CELL x, y has the CORNERS x, y; "
                + "x and 1, y; x, y and 1; both and 1).");
        int[][] sizes = {{1, 1}, {7, 1}, {1, 6}, {7, 6}, {3, 2}};
        int[] far = {64, 65, 72, 255, 256, 1 << 30, MAX, -1, -7, -8, MIN, MIN + 1};
        for (int[] size : sizes) {
            String text = ("row " + "a".repeat(size[0]) + ";").repeat(size[1]) + "man 0 0 1;";
            RopeRound x = Due.on(text);
            for (int corner = 0; corner < 64; corner++) {
                boolean is = corner % 8 <= size[0] && corner / 8 <= size[1];
                due(text + " corner " + corner, x.most(corner, 0, -2), is ? NONE : BAD);
            }
            for (int cell = 0; cell < 64; cell++) {
                boolean is = cell % 7 < size[0] && cell / 7 < size[1];
                due(text + " cell " + cell, x.whose(cell), is ? NONE : BAD);
            }
            for (int no : far) {
                due(text + " corner " + no, x.most(no, 0, -2), BAD);
                due(text + " cell " + no, x.whose(no), BAD);
            }
        }
        RopeRound x = Due.on("row aa;row aj;man 1 1 4;man 2 1 4;man 1 2 4;man 2 2 4;");
        String[] rings = {"ESWN", "SWNE", "NESW", "NWSE"};
        for (int man = 0; man < 4; man++) {
            due("round cell 1, 1 from its corner " + man, Due.judge(x, man, rings[man]), 9);
        }
    }

    private static void ways() {
        Due.says("T2", "STEPS: WAYS 0 north, 1 east, 2 south, 3 west, from a CORNER to the next one.");
        String[] stones = {"1 0", "2 1", "1 2", "0 1"};
        for (int way = 0; way < 4; way++) {
            RopeRound x = Due.on("row aa;row aa;stone " + stones[way] + ";man 1 1 4;");
            for (int other = 0; other < 4; other++) {
                due("stone at way " + way + ", step " + other, x.takes(9, other), way == other ? NONE : 1);
            }
        }
        RopeRound x = Due.on("row aa;row aa;man 1 1 4;");
        due("way 4", x.takes(9, 4), BAD);
        due("way -1", x.takes(9, -1), BAD);
        due("way max", x.takes(9, MAX), BAD);
        due("way min", x.takes(9, MIN), BAD);
    }

    private static void both(RopeRound x, int corner, int way, int want) {
        int[] strides = {-8, 1, 8, -1};
        due("from " + corner + " by way " + way, x.takes(corner, way), want);
        due("back to " + corner, x.takes(corner + strides[way], way + 2 & 3), want);
    }

    private static void ropeTaken() {
        Due.says("T2", "A STEP has a CELL on either side, or the end of the ground on one; it takes 1 of the rope, but 0, "
                + "if water is on just one side,");
        RopeRound x = Due.on("row waw;row wwa;row aaw;man 0 0 4;");
        both(x, 0, 1, 0);
        both(x, 1, 1, 1);
        both(x, 2, 1, 0);
        both(x, 24, 1, 1);
        both(x, 26, 1, 0);
        both(x, 0, 2, 0);
        both(x, 8, 2, 0);
        both(x, 16, 2, 1);
        both(x, 3, 2, 0);
        both(x, 11, 2, 1);
        both(x, 19, 2, 0);
        both(x, 1, 2, 0);
        both(x, 2, 2, 0);
        both(x, 9, 2, 1);
        both(x, 10, 2, 0);
        both(x, 17, 2, 1);
        both(x, 18, 2, 0);
        both(x, 8, 1, 1);
        both(x, 9, 1, 0);
        both(x, 10, 1, 0);
        both(x, 16, 1, 0);
        both(x, 17, 1, 0);
        both(x, 18, 1, 0);
        x = Due.on("row w;man 0 0 0;");
        for (int way = 0; way < 4; way++) {
            due("nothing but water", x.takes(new int[] {8, 0, 1, 9}[way], way), 0);
        }
        due("no rope is taken round it", Due.judge(x, 0, "ESWN"), 0);
        x = Due.on("row ww;man 0 0 0;");
        due("nor round two", Due.judge(x, 0, "EESWWN"), 0);
        due("but between them", Due.judge(x, 0, "ESWN"), faulty(3, 1));
    }

    private static void ropeTakenAlongRings() {
        Due.says("T2", "or a RING's rope runs there.");
        RopeRound x = Due.on("row aaaa;row awwa;row aaaa;man 1 0 8;man 3 0 5;man 0 0 4;");
        both(x, 10, 2, 1);
        due("lay round a and water", Due.lay(x, 0, "ESSWNN"), 0);
        both(x, 1, 1, 0);
        both(x, 2, 2, 0);
        both(x, 10, 2, 0);
        both(x, 17, 1, 0);
        both(x, 1, 2, 0);
        both(x, 9, 1, 0);
        both(x, 0, 1, 1);
        both(x, 2, 1, 1);
        both(x, 16, 1, 1);
        both(x, 18, 2, 1);
        due("the next one saves rope", Due.lay(x, 1, "WSSENN"), 0);
        both(x, 10, 2, 0);
        x.lift(0);
        both(x, 10, 2, 0);
        both(x, 1, 1, 1);
        x.lift(1);
        both(x, 10, 2, 1);
        x = Due.on("row aaa;row aaa;row aaa;man 0 0 12;");
        due("a ring", Due.lay(x, 0, "EEESSSWWWNNN"), 0);
        both(x, 9, 1, 1);
        both(x, 9, 2, 1);
        both(x, 1, 2, 1);
        both(x, 0, 1, 0);
        both(x, 19, 2, 0);
    }

    private static void fromThePeg() {
        Due.says("T2", "A LAYING of a man: a row of STEPS from his peg.");
        RopeRound x = Due.on("row bcd;man 0 0 4;man 1 0 4;man 2 0 4;man 3 0 4;");
        for (int man = 0; man < 3; man++) {
            due("man " + man, Due.judge(x, man, "ESWN"), man + 1);
        }
        due("the last one leaves", Due.judge(x, 3, "ESWN"), faulty(1, 0));
        due("he goes back", Due.judge(x, 3, "WSEN"), 3);
    }

    private static void leavesTheGround() {
        Due.says("T2", "FAULTS of it, the first STEP that has one: 1 it leaves the ground, or comes to a CORNER with a "
                + "stone;");
        RopeRound x = Due.on("row aaa;row aaa;stone 1 1;man 0 0 12;man 3 2 12;");
        due("north", Due.judge(x, 0, "N"), faulty(1, 0));
        due("west", Due.judge(x, 0, "W"), faulty(1, 0));
        due("east", Due.judge(x, 1, "E"), faulty(1, 0));
        due("south", Due.judge(x, 1, "S"), faulty(1, 0));
        due("north, later", Due.judge(x, 0, "EN"), faulty(1, 1));
        due("west, later", Due.judge(x, 0, "SW"), faulty(1, 1));
        due("east, later", Due.judge(x, 0, "EEEE"), faulty(1, 3));
        due("south, later", Due.judge(x, 0, "SSS"), faulty(1, 2));
        due("a stone", Due.judge(x, 0, "ESWN"), faulty(1, 1));
        due("at a stone from the west", Due.judge(x, 0, "SENW"), faulty(1, 1));
        due("at a stone from the east", Due.judge(x, 1, "WNW"), faulty(1, 2));
        due("at a stone from the south", Due.judge(x, 1, "WWN"), faulty(1, 2));
        due("round the stone", Due.judge(x, 0, "EEESSWWWNN"), 0);
        x = Due.on("row aaaaaaa;row aaaaaaa;man 7 0 12;man 0 1 12;");
        due("east of the last of eight corners", Due.judge(x, 0, "E"), faulty(1, 0));
        due("west of the first of eight", Due.judge(x, 1, "W"), faulty(1, 0));
    }

    private static void whereTheRopeWas() {
        Due.says("T2", "2 it comes to a CORNER where the rope was (to the peg, too, if it is not the last one);");
        RopeRound x = Due.on("row aaa;row aaa;man 0 0 12;man 1 1 12;");
        due("its own way back", Due.judge(x, 0, "EEW"), faulty(2, 2));
        due("a corner of before", Due.judge(x, 0, "EESWNW"), faulty(2, 4));
        due("the peg, and on", Due.judge(x, 0, "ESWNE"), faulty(2, 3));
        due("the peg, and there again at last", Due.judge(x, 0, "ESWNSENW"), faulty(2, 3));
        due("to the peg at once, and on", Due.judge(x, 0, "EWS"), faulty(2, 1));
        due("the peg at last", Due.judge(x, 0, "ESWN"), 0);
        due("two rings through the peg", Due.judge(x, 1, "ESWNNESW"), faulty(2, 3));
        due("a corner of before at last", Due.judge(x, 0, "EESWN"), faulty(2, 4));
    }

    private static void tooLong() {
        Due.says("T2", "3 more rope is taken than he has;");
        for (int rope = 0; rope <= 12; rope++) {
            RopeRound x = Due.on("row aaaa;row aaaa;row aaaa;man 0 0 " + rope + ";");
            due("4 by " + rope, Due.judge(x, 0, "ESWN"), rope >= 4 ? 0 : faulty(3, rope));
            due("6 by " + rope, Due.judge(x, 0, "EESWWN"), rope >= 6 ? 0 : faulty(3, rope));
            due("12 by " + rope, Due.judge(x, 0, "EEESSSWWWNNN"), rope >= 12 ? 0 : faulty(3, rope));
            due("14 by " + rope, Due.judge(x, 0, "EEEESSSWWWWNNN"), faulty(3, rope));
        }
        RopeRound x = Due.on("row waa;man 0 0 3;man 0 0 2;man 0 0 4;");
        due("what is saved is not taken", Due.judge(x, 0, "EESWWN"), 0);
        due("by one less, at the last that takes", Due.judge(x, 1, "EESWWN"), faulty(3, 3));
        due("another one", Due.judge(x, 2, "EEESWWWN"), faulty(3, 5));
    }

    private static void notAtThePeg() {
        Due.says("T2", "behind all: 4 it is not at the peg;");
        RopeRound x = Due.on("row aaa;row aaa;man 0 0 12;");
        due("one", Due.judge(x, 0, "E"), faulty(4, 1));
        due("three", Due.judge(x, 0, "ESW"), faulty(4, 3));
        due("five", Due.judge(x, 0, "EESWW"), faulty(4, 5));
        due("seven", Due.judge(x, 0, "EEESWWW"), faulty(4, 7));
        due("behind all: a fault of the last step is first", Due.judge(x, 0, "ESWW"), faulty(1, 3));
    }

    private static void fewerThanFour() {
        Due.says("T2", "5 there are fewer than four STEPS;");
        RopeRound x = Due.on("row aaa;row aaa;man 0 0 12;man 1 1 2;man 1 1 0;");
        due("none", Due.judge(x, 0, ""), faulty(5, 0));
        due("two", Due.judge(x, 0, "EW"), faulty(5, 2));
        due("two, north", Due.judge(x, 1, "NS"), faulty(5, 2));
        due("none by no rope", Due.judge(x, 2, ""), faulty(5, 0));
        due("three are not at the peg", Due.judge(x, 0, "ESW"), faulty(4, 3));
        due("four", Due.judge(x, 0, "ESWN"), 0);
    }

    private static void roundARing() {
        Due.says("T2", "6 a CELL in it is in a RING.");
        RopeRound x = Due.on("row aaa;row aaa;row aaa;man 1 1 4;man 0 0 12;man 1 1 12;");
        due("lay in the middle", Due.lay(x, 0, "ESWN"), 0);
        due("all round it", Due.judge(x, 1, "EEESSSWWWNNN"), faulty(6, 12));
        due("the same", Due.judge(x, 2, "ESWN"), faulty(6, 4));
        due("the same the other way", Due.judge(x, 2, "SENW"), faulty(6, 4));
        due("his own, too", Due.judge(x, 0, "ESWN"), faulty(6, 4));
        due("one more than it", Due.judge(x, 2, "EESWWN"), faulty(6, 6));
        due("beside it", Due.judge(x, 2, "NESW"), 0);
        due("at its corner", Due.judge(x, 1, "ESWN"), 0);
        x.lift(0);
        due("where it was", Due.judge(x, 2, "ESWN"), 0);
        x = Due.on("row wa;man 0 0 4;man 0 0 4;");
        due("a ring round water", Due.lay(x, 0, "ESWN"), 0);
        due("water in a ring", Due.judge(x, 1, "ESWN"), faulty(6, 4));
    }

    private static void whichFaultFirst() {
        Due.says("T2", "the first STEP that has one:");
        RopeRound x = Due.on("row aaa;row aaa;stone 2 0;man 0 0 1;man 1 1 0;man 0 1 2;man 1 0 12;");
        due("1 ahead of 3 in one step", Due.judge(x, 0, "EE"), faulty(1, 1));
        due("1 ahead of 3, leaving", Due.judge(x, 0, "EN"), faulty(1, 1));
        due("2 ahead of 3 in one step", Due.judge(x, 0, "EWE"), faulty(2, 1));
        due("3 in an earlier step", Due.judge(x, 1, "EEEE"), faulty(3, 0));
        due("2 ahead of 3 in one step, later", Due.judge(x, 2, "EEWW"), faulty(2, 2));
        due("3 ahead of a later 1", Due.judge(x, 2, "EEEEE"), faulty(3, 2));
        due("2 ahead of a later 1", Due.judge(x, 3, "SNN"), faulty(2, 1));
        due("1 ahead of a later 2", Due.judge(x, 3, "NSN"), faulty(1, 0));
        due("3 ahead of 4", Due.judge(x, 0, "ES"), faulty(3, 1));
        due("4 ahead of 5", Due.judge(x, 0, "E"), faulty(4, 1));
        due("3 ahead of 5", Due.judge(x, 0, "EW"), faulty(3, 1));
        due("lay", Due.lay(x, 3, "SWNE"), 0);
        due("3 ahead of 6", Due.judge(x, 0, "ESSWNN"), faulty(3, 3));
        due("4 ahead of 6", Due.judge(x, 0, "ESW"), faulty(4, 3));
        due("5 where a ring is", Due.judge(x, 0, "EW"), faulty(5, 2));
    }

    private static void worth() {
        Due.says("T2", "IN it: CELLS that it goes round; its worth: theirs, added (water 0).");
        RopeRound x = Due.on("row abc;row jwd;row ghi;man 0 0 12;man 1 1 12;");
        due("all nine", Due.judge(x, 0, "EEESSSWWWNNN"), 0 + 1 + 2 + 9 + 0 + 3 + 6 + 7 + 8);
        due("the other way", Due.judge(x, 0, "SSSEEENNNWWW"), 36);
        due("water alone", Due.judge(x, 1, "ESWN"), 0);
        due("an angle", Due.judge(x, 0, "ESSESWWNNN"), 0 + 9 + 6 + 7);
        due("a bay", Due.judge(x, 0, "ESESENESSWWWNNN"), faulty(1, 6));
        due("without the last one", Due.judge(x, 0, "EEESSWSWWNNN"), 36 - 8);
        x = Due.on("row jjjjjjj;row jwwwwwj;row jwwwwwj;row jjjjjjj;man 1 1 12;man 0 0 12;");
        due("ten cells of water", Due.lay(x, 0, "EEEEESSWWWWWNN"), 0);
        due("its worth is none, not NONE", x.man(0, 2), 0);
        due("its cells", x.man(0, 3), 10);
        x = Due.on("row jwj;row wjw;row jwj;man 0 0 12;");
        due("the most worth by twelve steps", Due.judge(x, 0, "EEESSSWWWNNN"), 45);
    }

    private static void becomesHisRing() {
        Due.says("T2", "One without a FAULT becomes his RING (in place of none; he who has one lays no other).");
        RopeRound x = Due.on("row bb;row bb;man 0 0 4;man 2 2 6;");
        due("with a fault", Due.lay(x, 0, "EESWWN"), faulty(3, 4));
        due("none is his", x.man(0, 2), NONE);
        due("without", Due.lay(x, 0, "ESWN"), 1);
        due("is his", x.man(0, 2), 1);
        due("no other", Due.lay(x, 0, "SENW"), STATE);
        due("not where nothing lies either", Due.lay(x, 0, "EESSWWNN"), STATE);
        due("he has the one", x.man(0, 3), 1);
        due("another man may", Due.lay(x, 1, "WWNEES"), 2);
        x.lift(0);
        due("he may again", Due.lay(x, 0, "EESWWN"), 2);
    }

    private static void takes() {
        Due.says("P9", "What a STEP from a CORNER in a WAY takes (0, 1); NONE: it leaves the ground, or comes to a stone.");
        RopeRound x = Due.on("row aw;stone 2 1;man 0 0 4;");
        due("1", x.takes(0, 1), 1);
        due("0", x.takes(1, 1), 0);
        due("north", x.takes(0, 0), NONE);
        due("west", x.takes(0, 3), NONE);
        due("south", x.takes(8, 2), NONE);
        due("east", x.takes(2, 1), NONE);
        due("to a stone by land or water", x.takes(9, 1), NONE);
        due("to a stone from north", x.takes(2, 2), NONE);
        due("from a stone", x.takes(10, 0), 0);
        due("from a stone beyond the end", x.takes(10, 2), NONE);
        Due.says("P9", "BAD.");
        int[] noCorners = {-1, 3, 7, 11, 16, 64, MIN, MAX};
        for (int corner : noCorners) {
            due("corner " + corner, x.takes(corner, 1), BAD);
        }
        int[] noWays = {-1, 4, MIN, MAX};
        for (int way : noWays) {
            due("way " + way, x.takes(0, way), BAD);
        }
        due("no ground", new RopeRound().takes(0, 0), BAD);
    }

    private static void judge() {
        Due.says("P10", "A LAYING of a man judged, n STEPS (0 to 20), ITEMS of a ROW from i on: its worth; -1000200 less "
                + "100 times the FAULT, less the STEP (n for 4 to 6).");
        RopeRound x = Due.on("row bwbwbw;row wwwwww;row wwwwww;row bwbwbw;man 0 0 12;man 3 2 12;");
        x.row(0, 1, 40);
        String round = "EEEEEESSSSWWWWWWNNNN";
        int[] steps = Due.steps(round);
        for (int i = 0; i < 20; i++) {
            x.set(0, 20 + i, steps[i]);
        }
        due("twenty, the last of forty", x.judge(0, 0, 20, 20), 6);
        due("nineteen of them", x.judge(0, 0, 20, 19), faulty(4, 19));
        due("none", x.judge(0, 0, 0, 0), faulty(5, 0));
        due("none, behind the last", x.judge(0, 0, 40, 0), faulty(5, 0));
        due("one, the last", x.judge(1, 0, 39, 1), faulty(4, 1));
        due("a fault at step 19", x.set(0, 39, 3) * 0 + x.judge(0, 0, 20, 20), faulty(1, 19));
        due("a fault at step 1", x.judge(0, 0, 38, 2), faulty(1, 0));
        due("nothing is laid", x.count(5), 0);
        Due.lay(x, 0, "ESWN");
        due("he who has a ring is judged, too", Due.judge(x, 0, "ES"), faulty(4, 2));
    }

    private static void judgeRefused() {
        Due.says("P10", "BAD: a man, ROW, n; NULL; PLACE; then BAD: an ITEM not 0 to 3.");
        RopeRound x = Due.on("row aa;row aa;man 0 0 4;man 1 1 4;");
        Due.fill(x, 0, 1, 2, 3, 0, 4, -1);
        int[] noMen = {-1, 2, 4, MIN, MAX};
        for (int man : noMen) {
            due("man " + man, x.judge(man, 0, 0, 4), BAD);
            due("a man ahead of NULL", x.judge(man, 1, 0, 4), BAD);
        }
        int[] noRows = {-1, 8, MIN, MAX};
        for (int row : noRows) {
            due("row " + row, x.judge(0, row, 0, 4), BAD);
        }
        int[] noCounts = {-1, 21, MIN, MAX};
        for (int n : noCounts) {
            due("n " + n, x.judge(0, 0, 0, n), BAD);
            due("n ahead of NULL", x.judge(0, 1, 0, n), BAD);
            due("n ahead of PLACE", x.judge(0, 0, -1, n), BAD);
        }
        due("NULL", x.judge(0, 1, 0, 4), NULL);
        due("NULL ahead of PLACE", x.judge(0, 1, -1, 4), NULL);
        int[] noPlaces = {-1, 7, MIN, MAX};
        for (int i : noPlaces) {
            due("place " + i, x.judge(0, 0, i, 0), PLACE);
        }
        due("beyond the end", x.judge(0, 0, 3, 4), PLACE);
        due("beyond the end by n", x.judge(0, 0, 0, 7), PLACE);
        due("PLACE ahead of BAD of an item", x.judge(0, 0, 4, 20), PLACE);
        due("an item 4", x.judge(0, 0, 0, 5), BAD);
        due("an item -1", x.judge(0, 0, 5, 1), BAD);
        due("an item ahead of an earlier fault", x.judge(0, 0, 3, 2), BAD);
        due("what is not of the laying is free", x.judge(0, 0, 0, 4), 0);
        x.row(2, 2, 1);
        x.set(2, 0, 256);
        due("an item 256", x.judge(0, 2, 0, 1), BAD);
        x.set(2, 0, MIN);
        due("an item min", x.judge(0, 2, 0, 1), BAD);
        for (int way = 0; way < 4; way++) {
            x.set(2, 0, way);
            due("an item " + way, x.judge(1, 2, 0, 1), faulty(4, 1));
        }
    }

    private static void lay() {
        Due.says("P11", "It is laid: likewise.");
        RopeRound x = Due.on("row bc;row de;man 0 0 8;man 2 2 4;");
        due("its worth", Due.lay(x, 0, "SENW"), 1);
        due("it is there", x.count(5), 1);
        due("the other's, with a fault", Due.lay(x, 1, "WWNE"), faulty(4, 4));
        due("is not laid", x.count(5), 1);
        due("the other's", Due.lay(x, 1, "WNES"), 4);
        due("both are there", x.count(5), 2);
        x = Due.on("row w;man 0 0 0;");
        due("of no worth, by no rope", Due.lay(x, 0, "ESWN"), 0);
        due("is there", x.count(5), 1);
    }

    private static void layRefused() {
        Due.says("P11", "STATE: he has a RING (behind BAD of the first kind).");
        RopeRound x = Due.on("row bc;row de;man 0 0 8;man 2 2 4;");
        Due.fill(x, 0, 1, 2, 3, 0, 4);
        due("NULL", x.lay(0, 1, 0, 4), NULL);
        due("PLACE", x.lay(0, 0, 2, 4), PLACE);
        due("an item", x.lay(0, 0, 1, 4), BAD);
        due("none of these laid", x.count(5), 0);
        due("laid", x.lay(0, 0, 0, 4), 1);
        due("STATE", x.lay(0, 0, 0, 4), STATE);
        due("STATE ahead of NULL", x.lay(0, 1, 0, 4), STATE);
        due("STATE ahead of PLACE", x.lay(0, 0, -1, 4), STATE);
        due("STATE ahead of BAD of an item", x.lay(0, 0, 1, 4), STATE);
        due("STATE ahead of a fault", x.lay(0, 0, 0, 3), STATE);
        due("BAD ahead of STATE: row 8", x.lay(0, 8, 0, 4), BAD);
        due("BAD ahead of STATE: row -1", x.lay(0, -1, 0, 4), BAD);
        due("BAD ahead of STATE: n 21", x.lay(0, 0, 0, 21), BAD);
        due("BAD ahead of STATE: n -1", x.lay(0, 0, 0, -1), BAD);
        due("no man 2", x.lay(2, 0, 0, 4), BAD);
        due("no man -1", x.lay(-1, 0, 0, 4), BAD);
        due("the ring stays", x.man(0, 2), 1);
        due("no ground", new RopeRound().lay(0, 0, 0, 0), BAD);
    }

    private static void lift() {
        Due.says("P12", "His RING is taken up: its worth.");
        RopeRound x = Due.on("row jw;row aa;man 0 0 12;man 1 0 12;");
        Due.lay(x, 0, "ESWN");
        Due.lay(x, 1, "ESWN");
        due("worth 9", x.lift(0), 9);
        due("the other's stays", x.count(5), 1);
        due("worth 0", x.lift(1), 0);
        due("none is there", x.count(5), 0);
        due("its rope is not there", x.takes(0, 1), 1);
        Due.says("P12", "BAD; STATE: he has none.");
        due("taken up before", x.lift(0), STATE);
        int[] noMen = {-1, 2, 3, 4, MIN, MAX};
        for (int man : noMen) {
            due("man " + man, x.lift(man), BAD);
        }
        Due.lay(x, 1, "ESWN");
        due("only the other has one", x.lift(0), STATE);
    }

    private static void man() {
        Due.says("P13", "Of a man: 0 the CORNER of his peg, 1 ROPE, 2 the worth of his RING (NONE), 3 how many CELLS are in "
                + "it (NONE).");
        RopeRound x = Due.on("row ja;row wa;man 2 2 12;man 0 0 0;man 0 0 12;");
        due("the last corner", x.man(0, 0), 18);
        due("the first corner", x.man(1, 0), 0);
        due("the most rope", x.man(0, 1), 12);
        due("no rope", x.man(1, 1), 0);
        due("no ring", x.man(0, 2), NONE);
        due("no cells", x.man(0, 3), NONE);
        Due.lay(x, 2, "ESSWNN");
        due("worth", x.man(2, 2), 9);
        due("cells, water too", x.man(2, 3), 2);
        due("rope stays what it was", x.man(2, 1), 12);
        due("not the other's", x.man(0, 2), NONE);
        x.lift(2);
        due("no ring any more", x.man(2, 2), NONE);
        due("no cells any more", x.man(2, 3), NONE);
        Due.says("P13", "BAD.");
        int[] noMen = {-1, 3, 4, MIN, MAX};
        for (int man : noMen) {
            due("man " + man, x.man(man, 0), BAD);
        }
        int[] noWhats = {-1, 4, MIN, MAX};
        for (int what : noWhats) {
            due("what " + what, x.man(0, what), BAD);
        }
    }

    private static void whose() {
        Due.says("P14", "Whose RING a CELL is in; NONE.");
        RopeRound x = Due.on("row awa;row aaa;man 3 2 4;man 0 0 12;");
        for (int cell = 0; cell < 3; cell++) {
            due("nobody's " + cell, x.whose(cell), NONE);
        }
        Due.lay(x, 1, "EESWWN");
        Due.lay(x, 0, "WNES");
        due("1's", x.whose(0), 1);
        due("1's water", x.whose(1), 1);
        due("nobody's beside", x.whose(2), NONE);
        due("0's", x.whose(9), 0);
        due("nobody's still", x.whose(8), NONE);
        Due.says("P14", "BAD.");
        int[] noCells = {-1, 3, 6, 10, 14, 42, 49, MIN, MAX};
        for (int cell : noCells) {
            due("cell " + cell, x.whose(cell), BAD);
        }
    }
}
