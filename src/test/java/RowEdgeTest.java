/** Terms 1 and promises 2 to 5, sentence by sentence: ROWS at each bound that the document names. */
public final class RowEdgeTest {
    private static final int BAD = -1000001;
    private static final int NULL = -1000011, PLACE = -1000012, SIZE = -1000014, STORE = -1000015;
    private static final int MIN = Integer.MIN_VALUE, MAX = Integer.MAX_VALUE;

    private RowEdgeTest() {
    }

    private static void due(String call, long got, long want) {
        Due.due(call, got, want);
    }

    public static void main(String[] args) {
        rowsAndLanes();
        row();
        rowRefused();
        set();
        setRefused();
        copy();
        copyRefused();
        drop();
        Due.end();
    }

    /** An ITEM told by what two men answer who take one STEP by it; 9: it is no WAY. */
    private static int item(RopeRound x, int row, int i) {
        Due.read(x, "row aw;row aa;man 0 0 0;man 1 1 0;");
        int first = x.judge(0, row, i, 1);
        int second = x.judge(1, row, i, 1);
        if (first == BAD) {
            return 9;
        }
        if (first == -1000300) {
            return second == -1000601 ? 0 : 3;
        }
        return second == -1000601 ? 1 : 2;
    }

    private static void rowsAndLanes() {
        Due.says("T1", "ROWS 0 .. 7 are missing (at first), or have a LANE (0 bytes, 1 shorts, 2 ints) and 0 to 40 ITEMS, "
                + "0 at first.");
        RopeRound x = new RopeRound();
        for (int row = 0; row < 8; row++) {
            due("missing at first: drop " + row, x.drop(row), NULL);
        }
        due("none of them is there", x.count(0), 0);
        for (int row = 0; row < 8; row++) {
            due("row " + row, x.row(row, row % 3, 40), 40);
        }
        due("all are there", x.count(0), 8);
        due("row 8", x.row(8, 0, 1), BAD);
        due("row -1", x.row(-1, 0, 1), BAD);
        due("lane 0: 8 bits", x.set(0, 0, 65535 + 128), 127);
        due("lane 1: 16 bits", x.set(1, 0, 65536 + 32767), 32767);
        due("lane 2: 32 bits", x.set(2, 0, 65536 + 32767), 98303);
        x.row(7, 0, 40);
        for (int i = 0; i < 40; i += 13) {
            due("item " + i + " is 0 at first", item(x, 7, i), 0);
        }
    }

    private static void row() {
        Due.says("P2", "A ROW of a LANE with n ITEMS, in place of what is there: n.");
        RopeRound x = new RopeRound();
        due("no item", x.row(0, 0, 0), 0);
        due("is there", x.count(0), 1);
        due("has no place 0", x.set(0, 0, 1), PLACE);
        due("one item", x.row(0, 0, 1), 1);
        due("the place 0", x.set(0, 0, 1), 1);
        due("no place 1", x.set(0, 1, 1), PLACE);
        due("forty", x.row(0, 1, 40), 40);
        due("still one row", x.count(0), 1);
        due("another lane", x.set(0, 39, 300), 300);
        due("no place 40", x.set(0, 40, 1), PLACE);
        due("fewer", x.row(0, 1, 2), 2);
        due("what was beyond is gone", x.set(0, 2, 1), PLACE);
        x.set(0, 1, 3);
        due("as many anew", x.row(0, 1, 2), 2);
        due("0 again", item(x, 0, 1), 0);
        x.set(0, 0, 2);
        x.row(0, 1, 0);
        x.row(0, 1, 40);
        due("0 again behind none", item(x, 0, 0), 0);
        x.set(0, 39, 2);
        x.drop(0);
        x.row(0, 1, 40);
        due("0 again behind drop", item(x, 0, 39), 0);
    }

    private static void rowRefused() {
        Due.says("P2", "BAD: ROW, LANE, n above 40; SIZE.");
        RopeRound x = new RopeRound();
        int[] noRows = {-1, 8, MIN, MAX};
        for (int row : noRows) {
            due("row " + row, x.row(row, 0, 1), BAD);
        }
        int[] noLanes = {-1, 3, MIN, MAX};
        for (int lane : noLanes) {
            due("lane " + lane, x.row(0, lane, 1), BAD);
        }
        due("n 41", x.row(0, 0, 41), BAD);
        due("n max", x.row(0, 0, MAX), BAD);
        due("n -1", x.row(0, 0, -1), SIZE);
        due("n min", x.row(0, 0, MIN), SIZE);
        due("BAD row ahead of SIZE", x.row(8, 0, -1), BAD);
        due("BAD lane ahead of SIZE", x.row(0, 3, -1), BAD);
        due("no row came", x.count(0), 0);
        x.row(0, 2, 3);
        x.set(0, 2, 2);
        x.row(0, 0, -1);
        x.row(0, 0, 41);
        due("the row stays as it is", item(x, 0, 2), 2);
        due("its lane, too", x.set(0, 0, 70000), 70000);
    }

    private static void cut(RopeRound x, int row, int v, int is) {
        due("row " + row + " becomes " + v, x.set(row, 0, v), is);
    }

    private static void set() {
        Due.says("P3", "ITEM i becomes v, its lowest bits, as many as the LANE has: what it is then.");
        RopeRound x = new RopeRound();
        for (int lane = 0; lane < 3; lane++) {
            x.row(lane, lane, 40);
        }
        int[][] bytes = {{0, 0}, {127, 127}, {128, -128}, {-128, -128}, {-129, 127}, {255, -1}, {256, 0}, {257, 1},
            {-255, 1}, {-256, 0}, {383, 127}, {384, -128}, {MAX, -1}, {MIN, 0}, {-1, -1}};
        for (int[] pair : bytes) {
            cut(x, 0, pair[0], pair[1]);
        }
        int[][] shorts = {{128, 128}, {32767, 32767}, {32768, -32768}, {-32768, -32768}, {-32769, 32767}, {65535, -1},
            {65536, 0}, {65537, 1}, {-65536, 0}, {-65535, 1}, {MAX, -1}, {MIN, 0}, {-1, -1}};
        for (int[] pair : shorts) {
            cut(x, 1, pair[0], pair[1]);
        }
        int[] ints = {0, -1, 128, 32768, 65536, MAX, MIN};
        for (int v : ints) {
            cut(x, 2, v, v);
        }
        cut(x, 0, 256 + 2, 2);
        due("a byte is what it became", item(x, 0, 0), 2);
        cut(x, 1, -65536 + 3, 3);
        due("a short is what it became", item(x, 1, 0), 3);
        cut(x, 2, 65536 + 3, 65539);
        due("an int keeps all", item(x, 2, 0), 9);
        due("the last place", x.set(0, 39, 1), 1);
        due("is that one", item(x, 0, 39), 1);
        due("and no other", item(x, 0, 38), 0);
    }

    private static void setRefused() {
        Due.says("P3", "BAD: ROW; NULL; PLACE.");
        RopeRound x = new RopeRound();
        x.row(0, 0, 3);
        x.row(1, 0, 0);
        int[] noRows = {-1, 8, MIN, MAX};
        for (int row : noRows) {
            due("row " + row, x.set(row, -1, 0), BAD);
        }
        due("a row that is missing", x.set(2, 0, 0), NULL);
        due("NULL ahead of PLACE", x.set(2, -1, 0), NULL);
        int[] noPlaces = {-1, 3, 40, MIN, MAX};
        for (int i : noPlaces) {
            due("place " + i, x.set(0, i, 0), PLACE);
        }
        due("place 0 of none", x.set(1, 0, 0), PLACE);
        due("the first", x.set(0, 0, 0), 0);
        due("the last", x.set(0, 2, 0), 0);
        x.drop(0);
        due("NULL behind drop", x.set(0, 0, 0), NULL);
    }

    private static void items(RopeRound x, int row, int... want) {
        for (int i = 0; i < want.length; i++) {
            due("item " + i + " of row " + row, item(x, row, i), want[i]);
        }
    }

    private static void copy() {
        Due.says("P4", "n ITEMS of a from i on come to b from j on, as they were ahead: n.");
        RopeRound x = new RopeRound();
        Due.fill(x, 0, 1, 2, 3, 0, 1);
        x.row(1, 0, 5);
        due("the last two to the beginning", x.copy(0, 2, 1, 0, 2), 2);
        items(x, 1, 3, 0, 0, 0, 0);
        due("all", x.copy(0, 0, 1, 0, 5), 5);
        items(x, 1, 1, 2, 3, 0, 1);
        due("onwards over itself", x.copy(0, 0, 0, 1, 4), 4);
        items(x, 0, 1, 1, 2, 3, 0);
        due("back over itself", x.copy(1, 1, 1, 0, 4), 4);
        items(x, 1, 2, 3, 0, 1, 1);
        due("onto itself", x.copy(1, 0, 1, 0, 5), 5);
        items(x, 1, 2, 3, 0, 1, 1);
        due("none, behind the last of each", x.copy(0, 5, 1, 5, 0), 0);
        x.row(2, 0, 0);
        due("none of none", x.copy(2, 0, 2, 0, 0), 0);
        x = new RopeRound();
        for (int lane = 0; lane < 3; lane++) {
            x.row(lane, lane, 40);
            x.set(lane, 39, 1);
            x.row(3 + lane, lane, 40);
            due("forty of lane " + lane, x.copy(lane, 0, 3 + lane, 0, 40), 40);
            due("the last of them", item(x, 3 + lane, 39), 1);
        }
    }

    private static void copyRefused() {
        Due.says("P4", "BAD: ROWS; NULL; STORE; PLACE (i, j, n below 0, or beyond an end).");
        RopeRound x = new RopeRound();
        x.row(0, 0, 3);
        x.row(1, 0, 5);
        x.row(2, 1, 3);
        x.row(3, 2, 3);
        int[] noRows = {-1, 8, MIN, MAX};
        for (int row : noRows) {
            due("a " + row, x.copy(row, 0, 0, 0, 0), BAD);
            due("b " + row, x.copy(0, 0, row, 0, 0), BAD);
            due("BAD b ahead of NULL of a", x.copy(4, 0, row, 0, 0), BAD);
            due("BAD a ahead of NULL of b", x.copy(row, 0, 4, 0, 0), BAD);
        }
        due("a is missing", x.copy(4, 0, 0, 0, 0), NULL);
        due("b is missing", x.copy(0, 0, 4, 0, 0), NULL);
        due("NULL ahead of PLACE", x.copy(4, -1, 0, -1, -1), NULL);
        int[][] lanes = {{0, 2}, {0, 3}, {2, 0}, {2, 3}, {3, 0}, {3, 2}};
        for (int[] pair : lanes) {
            due("lanes of " + pair[0] + ", " + pair[1], x.copy(pair[0], 0, pair[1], 0, 0), STORE);
            due("STORE ahead of PLACE", x.copy(pair[0], -1, pair[1], 0, 1), STORE);
        }
        due("i -1", x.copy(0, -1, 1, 0, 1), PLACE);
        due("i -1, none", x.copy(0, -1, 1, 0, 0), PLACE);
        due("j -1", x.copy(0, 0, 1, -1, 1), PLACE);
        due("j -1, none", x.copy(0, 0, 1, -1, 0), PLACE);
        due("n -1", x.copy(0, 0, 1, 0, -1), PLACE);
        due("n -1 in the midst", x.copy(0, 2, 1, 2, -1), PLACE);
        due("n min", x.copy(0, 2, 1, 2, MIN), PLACE);
        due("beyond the end of a", x.copy(0, 0, 1, 0, 4), PLACE);
        due("beyond the end of a by i", x.copy(0, 1, 1, 0, 3), PLACE);
        due("beyond the end of b", x.copy(1, 0, 0, 0, 4), PLACE);
        due("beyond the end of b by j", x.copy(1, 0, 0, 1, 3), PLACE);
        due("just to both ends", x.copy(0, 0, 1, 2, 3), 3);
        due("i beyond, none", x.copy(0, 4, 1, 0, 0), PLACE);
        due("j beyond, none", x.copy(0, 0, 1, 6, 0), PLACE);
        due("i max", x.copy(0, MAX, 1, 0, 1), PLACE);
        due("j max", x.copy(0, 0, 1, MAX, 1), PLACE);
        due("n max", x.copy(0, 1, 1, 1, MAX), PLACE);
        due("all max", x.copy(0, MAX, 1, MAX, MAX), PLACE);
        due("all min", x.copy(0, MIN, 1, MIN, MIN), PLACE);
    }

    private static void drop() {
        Due.says("P5", "A ROW is missing from now on: how many ITEMS it had.");
        RopeRound x = new RopeRound();
        int[] sizes = {0, 1, 40};
        for (int n : sizes) {
            x.row(7, 2, n);
            due("it had " + n, x.drop(7), n);
            due("none is there", x.count(0), 0);
            due("it is missing", x.set(7, 0, 0), NULL);
        }
        x.row(0, 0, 1);
        x.row(1, 0, 2);
        x.drop(0);
        due("the other one stays", x.drop(1), 2);
        Due.says("P5", "BAD; NULL.");
        due("missing at first", x.drop(6), NULL);
        due("missing again", x.drop(7), NULL);
        int[] noRows = {-1, 8, MIN, MAX};
        for (int row : noRows) {
            due("row " + row, x.drop(row), BAD);
        }
    }
}
