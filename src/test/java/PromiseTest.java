/** The promises one by one: ordinary inputs, the edges that the document names, and wrong inputs. */
public final class PromiseTest {
    private static final int NONE = -1000000, BAD = -1000001, STATE = -1000002, FULL = -1000003;
    private static final int NULL = -1000011, PLACE = -1000012, KIND = -1000013, SIZE = -1000014, STORE = -1000015;
    private static final int MIN = Integer.MIN_VALUE, MAX = Integer.MAX_VALUE;

    /** Worths 0 1 2 3, 0 9 water 9, 0 0 0 7; a stone at 4, 2; pegs at 0, 0 (8), 4, 0 (6), 4, 3 (10). */
    private static final String FIELD = "row abcd;row ajwj;row aaah;stone 4 2;man 0 0 8;man 4 0 6;man 4 3 10;";

    private PromiseTest() {
    }

    private static RopeRound onField() {
        RopeRound x = new RopeRound();
        due("FIELD", Due.read(x, FIELD), 3);
        return x;
    }

    private static RopeRound on(String text, int men) {
        RopeRound x = new RopeRound();
        due(text, Due.read(x, text), men);
        return x;
    }

    private static void due(String call, long got, long want) {
        Due.due(call, got, want);
    }

    public static void main(String[] args) {
        newObject();
        row();
        set();
        copy();
        drop();
        feed();
        ground();
        groundFaults();
        fault();
        takes();
        judge();
        judgeFaults();
        lay();
        ropeSaved();
        lift();
        man();
        whose();
        most();
        tied();
        shares();
        least();
        wet();
        found();
        image();
        restore();
        kind();
        as();
        ask();
        trace();
        count();
        status();
        Due.end();
    }

    /** Promise 1. */
    private static void newObject() {
        RopeRound x = new RopeRound();
        due("1 NONE", RopeRound.NONE, NONE);
        due("1 BAD", RopeRound.BAD, BAD);
        due("1 STATE", RopeRound.STATE, STATE);
        due("1 FULL", RopeRound.FULL, FULL);
        for (int what = 0; what <= 6; what++) {
            due("1 count " + what, x.count(what), 0);
        }
        due("1 fault", x.fault(), 0);
        due("1 status", x.status(), 0);
        due("1 takes", x.takes(0, 1), BAD);
        due("1 man", x.man(0, 0), BAD);
        due("1 kind", x.kind(0), BAD);
        due("1 most", x.most(0, 12, -2), BAD);
        due("1 tied 0", x.tied(0), BAD);
        due("1 tied 1", x.tied(1), BAD);
        due("1 image", x.image(1), STATE);
        due("1 restore", x.restore(1), STATE);
    }

    /** Promise 2. */
    private static void row() {
        RopeRound x = new RopeRound();
        due("2 row 40", x.row(7, 2, 40), 40);
        due("2 last item", x.set(7, 39, 5), 5);
        due("2 row 0", x.row(0, 0, 0), 0);
        due("2 two rows", x.count(0), 2);
        due("2 in place", x.row(7, 1, 40), 40);
        due("2 still two", x.count(0), 2);
        x.row(6, 1, 40);
        x.set(6, 39, 9);
        due("2 copied over", x.copy(7, 39, 6, 39, 1), 1);
        x.row(5, 1, 1);
        due("2 was 0 again", steps(x, 6, 39), 0);
        due("2 row -1", x.row(-1, 0, 1), BAD);
        due("2 row 8", x.row(8, 0, 1), BAD);
        due("2 lane -1", x.row(0, -1, 1), BAD);
        due("2 lane 3", x.row(0, 3, -1), BAD);
        due("2 n 41", x.row(0, 0, 41), BAD);
        due("2 n max", x.row(0, 0, MAX), BAD);
        due("2 n -1", x.row(0, 0, -1), SIZE);
        due("2 n min", x.row(0, 0, MIN), SIZE);
        due("2 refused changes nothing", x.drop(0), 0);
    }

    /** An item read by the answer of judge(): a man with rope enough at a corner where way 0 leaves the ground. */
    private static int steps(RopeRound x, int row, int i) {
        Due.read(x, "row aa;man 0 0 12;");
        int got = x.judge(0, row, i, 1);
        return got == -1000300 ? 0 : got == -1000601 ? 1 : got;
    }

    /** Promise 3. */
    private static void set() {
        RopeRound x = new RopeRound();
        x.row(0, 0, 3);
        x.row(1, 1, 3);
        x.row(2, 2, 3);
        due("3 byte", x.set(0, 0, 127), 127);
        due("3 byte 128", x.set(0, 0, 128), -128);
        due("3 byte 256", x.set(0, 0, 256), 0);
        due("3 byte min", x.set(0, 2, MIN + 255), -1);
        due("3 short", x.set(1, 0, 32767), 32767);
        due("3 short 32768", x.set(1, 1, 32768), -32768);
        due("3 short 65537", x.set(1, 2, 65537), 1);
        due("3 int", x.set(2, 2, MIN), MIN);
        due("3 row 8", x.set(8, 0, 0), BAD);
        due("3 row -1", x.set(-1, 0, 0), BAD);
        due("3 missing", x.set(3, 0, 0), NULL);
        due("3 place 3", x.set(0, 3, 0), PLACE);
        due("3 place -1", x.set(0, -1, 0), PLACE);
        due("3 place max", x.set(0, MAX, 0), PLACE);
    }

    /** Promise 4. */
    private static void copy() {
        RopeRound x = on("row aa;man 0 0 12;", 1);
        Due.fill(x, 0, 1, 2, 3, 0);
        x.row(1, 0, 6);
        due("4 copy", x.copy(0, 0, 1, 2, 4), 4);
        due("4 what came", x.judge(0, 1, 2, 4), 0);
        Due.fill(x, 2, 1, 2, 3, 0, 9, 9);
        due("4 over itself, onwards", x.copy(2, 0, 2, 1, 4), 4);
        due("4 as they were ahead", x.judge(0, 2, 1, 4), 0);
        due("4 the first stays", x.judge(0, 2, 0, 1), -1000601);
        Due.fill(x, 3, 9, 1, 2, 3, 0);
        due("4 over itself, back", x.copy(3, 1, 3, 0, 4), 4);
        due("4 as they were, too", x.judge(0, 3, 0, 4), 0);
        due("4 none at the end", x.copy(0, 4, 1, 6, 0), 0);
        due("4 row a", x.copy(-1, 0, 1, 0, 0), BAD);
        due("4 row b", x.copy(0, 0, 8, 0, 0), BAD);
        due("4 a missing", x.copy(4, 0, 1, 0, 0), NULL);
        due("4 b missing", x.copy(0, -1, 4, 0, 0), NULL);
        x.row(5, 1, 6);
        due("4 two lanes", x.copy(0, -1, 5, 0, 1), STORE);
        due("4 i", x.copy(0, -1, 1, 0, 1), PLACE);
        due("4 j", x.copy(0, 0, 1, -1, 1), PLACE);
        due("4 n", x.copy(0, 0, 1, 0, -1), PLACE);
        due("4 n min", x.copy(0, 0, 1, 0, MIN), PLACE);
        due("4 beyond a", x.copy(0, 1, 1, 0, 4), PLACE);
        due("4 beyond b", x.copy(1, 0, 0, 0, 5), PLACE);
        due("4 far", x.copy(0, MAX, 1, MAX, MAX), PLACE);
        due("4 found changes nothing", x.judge(0, 1, 2, 4), 0);
    }

    /** Promise 5. */
    private static void drop() {
        RopeRound x = new RopeRound();
        x.row(3, 1, 17);
        due("5 drop", x.drop(3), 17);
        due("5 gone", x.count(0), 0);
        due("5 again", x.drop(3), NULL);
        due("5 row 8", x.drop(8), BAD);
        due("5 row -1", x.drop(-1), BAD);
    }

    /** Promise 6. */
    private static void feed() {
        RopeRound x = new RopeRound();
        due("6 n 0", x.feed(0, 0), BAD);
        due("6 n 9", x.feed(0, 9), BAD);
        due("6 n -1", x.feed(0, -1), BAD);
        due("6 highest first", x.feed(0x99726f7720613bL, 6), 6);
        due("6 behind", x.feed(0x6d616e2030203020L, 8), 14);
        due("6 two more", x.feed(0x343bL, 2), 16);
        due("6 read", x.ground(), 1);
        due("6 empty then", x.count(6), 0);
        for (int i = 0; i < 37; i++) {
            x.feed(0x2020202020202020L, 8);
        }
        due("6 296", x.count(6), 296);
        due("6 full", x.feed(0x2020202020L, 5), FULL);
        due("6 none came", x.count(6), 296);
        due("6 just room", x.feed(0x20202020L, 4), 300);
        due("6 full by one", x.feed(0x20L, 1), FULL);
        due("6 bad before full", x.feed(0x20L, 9), BAD);
        due("6 blank: the end", x.ground(), -1000400);
    }

    /** Promise 7. */
    private static void ground() {
        RopeRound x = on("  row\nabcdefg ; row jihwwwa;\n\nstone 7 002;man 000 0 12;man7 2 0;", -1000160);
        due("7 the peg on a stone", x.fault(), 2);
        due("7 all stays", x.count(4), 0);
        due("7 blanks, no blanks", Due.read(x, "row aj\n;stone2 1;man 0 0 0;man 02 000 012;\n"), 2);
        due("7 wide", x.count(1), 2);
        due("7 high", x.count(2), 1);
        due("7 stones", x.count(3), 1);
        due("7 peg", x.man(1, 0), 2);
        due("7 rope", x.man(1, 1), 12);
        due("7 worth 9", x.ask(1, 1), -1);
        String six = "row ab;row ab;row ab;row ab;row ab;row ab;";
        String stones = "stone 0 0;stone 1 0;stone 2 0;stone 0 0;stone 0 1;stone 1 1;stone 2 1;stone 0 2;";
        due("7 as many as can be", Due.read(x, six + stones + "man 2 6 1;man 2 6 2;man 2 5 3;man 1 6 4;"), 4);
        due("7 corners with a stone", x.count(3), 7);
        due("7 peg at the end", x.man(0, 0), 50);
        due("7 seven wide", Due.read(x, "row aaaaaaa;man 7 1 12;"), 1);
        due("7 stones are gone", x.count(3), 0);
        Due.read(x, FIELD);
        due("7 lay", Due.lay(x, 0, "ESWN"), 0);
        due("7 the one in place of it", Due.read(x, FIELD), 3);
        due("7 nothing is laid", x.count(5), 0);
        due("7 nobody's", x.whose(0), NONE);
    }

    private static void groundFault(String text, int place, int number) {
        RopeRound x = onField();
        due("7 " + text, Due.read(x, text), -1000100 - place);
        due("8 " + text, x.fault(), number);
        due("7 tape empty behind " + text, x.count(6), 0);
        due("7 all stays behind " + text, x.count(1) * 100 + x.count(2) * 10 + x.count(4), 433);
    }

    private static void groundFaults() {
        groundFault("", 0, 1);
        groundFault(" \n ", 3, 1);
        groundFault("row", 3, 1);
        groundFault("rows a;", 0, 1);
        groundFault("bow a;", 0, 1);
        groundFault("row a;ktone 0 0;", 6, 1);
        groundFault("row a;ban 0 0 1;", 6, 1);
        groundFault("Row a;", 0, 1);
        groundFault("row ;", 4, 1);
        groundFault("row k;", 4, 1);
        groundFault("row av;", 4, 1);
        groundFault("row ax;", 4, 1);
        groundFault("row aaaaaaaa;", 4, 1);
        groundFault("row aa;row a;", 11, 1);
        groundFault("row a man", 6, 1);
        groundFault("row a;stone", 11, 1);
        groundFault("row a;stone a 0;", 12, 1);
        groundFault("row a;stone 0;", 13, 1);
        groundFault("row a;stone 2 9;", 12, 2);
        groundFault("row a;stone 1 2;", 14, 2);
        groundFault("row a;stone 1 1 1;", 16, 1);
        groundFault("row a;stone 1 1;row a;", 16, 1);
        groundFault("row a;stone 1 1;", 16, 1);
        groundFault("row a;man 1 1 12;stone 1 1;", 17, 1);
        groundFault("row a;man 1 1 12;x", 17, 1);
        groundFault("row a;man 1 1 13;", 14, 2);
        groundFault("row a;man 1 1 0013;", 14, 1);
        groundFault("row a;man 1 1 1 ", 16, 1);
        groundFault("row a;man 1 1 1\t;", 15, 1);
        groundFault("row a;man -1 1 1;", 10, 1);
        groundFault("row a;stone 1 0;man 1 0 1;", 22, 2);
        groundFault("row a;stone 1 0;man 1 9 1;", 22, 2);
        groundFault("row a;stone 1 0;man 2 0 1;", 20, 2);
        groundFault("row a;row a;row a;row a;row a;row a; row ?", 37, 3);
        groundFault("row a;" + "stone 1 0;".repeat(8) + "stone", 86, 3);
        groundFault("row a;" + "man 1 0 1;".repeat(4) + "man", 46, 3);
        groundFault("row a;" + "stone 1 0;".repeat(8) + "row", 86, 1);
        groundFault("row a;man 1 0 1;\u00e9", 16, 1);
        groundFault("row a;man 1 0 1;\0", 16, 1);
    }

    /** Promise 8. */
    private static void fault() {
        RopeRound x = onField();
        due("8 none yet", x.fault(), 0);
        Due.read(x, "row a;stone 9");
        due("8 two", x.fault(), 2);
        Due.read(x, FIELD);
        due("8 still the latest", x.fault(), 2);
        Due.read(x, "row");
        due("8 one", x.fault(), 1);
        Due.judge(x, 0, "EW");
        due("8 of a text, not of a laying", x.fault(), 1);
    }

    /** Promise 9. */
    private static void takes() {
        RopeRound x = onField();
        due("9 end of the ground", x.takes(0, 0), NONE);
        due("9 west end", x.takes(8, 3), NONE);
        due("9 south end", x.takes(24, 2), NONE);
        due("9 east end", x.takes(4, 1), NONE);
        due("9 land", x.takes(0, 1), 1);
        due("9 along the end", x.takes(0, 2), 1);
        due("9 water south", x.takes(10, 1), 0);
        due("9 the same back", x.takes(11, 3), 0);
        due("9 water east", x.takes(10, 2), 0);
        due("9 the same back, too", x.takes(18, 0), 0);
        due("9 to a stone", x.takes(19, 1), NONE);
        due("9 to it from north", x.takes(12, 2), NONE);
        due("9 from a stone", x.takes(20, 3), 1);
        due("9 corner 5", x.takes(5, 0), BAD);
        due("9 corner 32", x.takes(32, 0), BAD);
        due("9 corner -1", x.takes(-1, 0), BAD);
        due("9 corner min", x.takes(MIN, 0), BAD);
        due("9 way 4", x.takes(0, 4), BAD);
        due("9 way -1", x.takes(0, -1), BAD);
        Due.read(x, "row aaaaaaa;row aaaaaaa;man 0 0 1;");
        due("9 full width, east", x.takes(7, 1), NONE);
        due("9 full width, west", x.takes(8, 3), NONE);
        Due.read(x, "row ww;row wa;man 0 0 1;");
        due("9 water at the end", x.takes(0, 1), 0);
        due("9 water on both sides", x.takes(1, 2), 1);
        due("9 water on both, along", x.takes(8, 1), 1);
        due("9 water and land", x.takes(9, 1), 0);
    }

    /** Promise 10. */
    private static void judge() {
        RopeRound x = onField();
        due("10 one cell", Due.judge(x, 0, "ESWN"), 0);
        due("10 the other way", Due.judge(x, 0, "SENW"), 0);
        due("10 two cells", Due.judge(x, 0, "EESWWN"), 1);
        due("10 four", Due.judge(x, 0, "EESSWWNN"), 10);
        due("10 nothing is laid", x.count(5), 0);
        Due.fill(x, 0, 9, 1, 2, 3, 0, 9);
        due("10 from i on", x.judge(0, 0, 1, 4), 0);
        due("10 no man", x.judge(3, 0, 1, 4), BAD);
        due("10 man -1", x.judge(-1, 0, 1, 4), BAD);
        due("10 row 8", x.judge(0, 8, 1, 4), BAD);
        due("10 n -1", x.judge(0, 0, 1, -1), BAD);
        due("10 n 21", x.judge(0, 1, 1, 21), BAD);
        due("10 missing", x.judge(0, 1, 1, 20), NULL);
        due("10 beyond", x.judge(0, 0, 3, 4), PLACE);
        due("10 i -1", x.judge(0, 0, -1, 4), PLACE);
        due("10 i max", x.judge(0, 0, MAX, 20), PLACE);
        due("10 i 7", x.judge(0, 0, 7, 0), PLACE);
        due("10 i 6", x.judge(0, 0, 6, 0), -1000700);
        due("10 an item 9", x.judge(0, 0, 0, 4), BAD);
        due("10 an item behind a fault", x.judge(0, 0, 3, 3), BAD);
        due("10 an item -1", x.set(0, 4, -1) + x.judge(0, 0, 1, 4), BAD - 1);
        x.row(0, 0, 40);
        for (int i = 0; i < 20; i++) {
            x.set(0, 20 + i, i < 6 ? 1 : i < 10 ? 2 : i < 16 ? 3 : 0);
        }
        Due.read(x, "row bwbwbw;row wwwwww;row wwwwww;row bwbwbw;man 0 0 12;");
        due("10 twenty steps", x.judge(0, 0, 20, 20), 6);
    }

    private static void judgeFaults() {
        RopeRound x = onField();
        due("10 none", Due.judge(x, 0, ""), -1000700);
        due("10 there and back", Due.judge(x, 0, "EW"), -1000702);
        due("10 not at the peg", Due.judge(x, 0, "ESW"), -1000603);
        due("10 leaves", Due.judge(x, 0, "EN"), -1000301);
        due("10 leaves at once", Due.judge(x, 0, "W"), -1000300);
        due("10 to a stone", Due.judge(x, 1, "SS"), -1000301);
        due("10 where it was", Due.judge(x, 0, "EESWNE"), -1000404);
        due("10 peg, not the last", Due.judge(x, 0, "ESWNE"), -1000403);
        due("10 back, not the last", Due.judge(x, 0, "EWEW"), -1000401);
        due("10 too long", Due.judge(x, 0, "EESSSWWNNN"), -1000509);
        due("10 2 ahead of 3", Due.judge(x, 1, "WWWSEEEN"), -1000200 - 300 - 7);
        due("10 just enough", Due.judge(x, 1, "WWSEEN"), 5);
        due("10 lay", Due.lay(x, 1, "WWSEEN"), 5);
        due("10 a cell in a ring", Due.judge(x, 0, "EEESWWWN"), -1000808);
        due("10 his own ring, too", Due.judge(x, 1, "WWSEEN"), -1000806);
        due("10 4 ahead of 6", Due.judge(x, 1, "WWSEE"), -1000605);
        Due.read(x, "row jwj;row wjw;row jwj;man 0 0 0;man 1 1 0;");
        due("10 no rope", Due.judge(x, 0, "ESWN"), -1000500);
        due("10 no rope, along water", Due.judge(x, 1, "ESWN"), 9);
    }

    /** Promise 11. */
    private static void lay() {
        RopeRound x = onField();
        due("11 a fault", Due.lay(x, 0, "EN"), -1000301);
        due("11 is not laid", x.count(5), 0);
        due("11 lay", Due.lay(x, 0, "EESWWN"), 1);
        due("11 laid", x.count(5), 1);
        due("11 another one", Due.lay(x, 0, "SSEENNWW"), STATE);
        due("11 BAD ahead of STATE", x.lay(0, 8, 0, 4), BAD);
        due("11 n", x.lay(0, 0, 0, 21), BAD);
        due("11 STATE ahead of NULL", x.lay(0, 6, 0, 4), STATE);
        due("11 NULL", x.lay(1, 6, 0, 4), NULL);
        due("11 PLACE", x.lay(1, 7, 5, 4), PLACE);
        Due.fill(x, 7, 3, 4, 1, 0);
        due("11 an item 4", x.lay(1, 7, 0, 4), BAD);
        due("11 round the other's", Due.lay(x, 1, "WWWSEEEN"), -1000808);
        due("11 beside it", Due.lay(x, 1, "WWSEEN"), 5);
        due("11 two", x.count(5), 2);
        due("11 no man", x.lay(3, 7, 0, 4), BAD);
    }

    private static void ropeSaved() {
        RopeRound x = on("row aaaa;row ajja;man 0 0 6;man 2 0 3;man 4 2 9;", 3);
        due("2 too long by one", Due.judge(x, 1, "ESWN"), -1000503);
        due("9 ahead", x.takes(2, 2), 1);
        due("11 lay", Due.lay(x, 0, "EESWWN"), 0);
        due("9 where a rope runs", x.takes(2, 2), 0);
        due("9 back along it", x.takes(10, 0), 0);
        due("10 along the other's", Due.judge(x, 1, "ESWN"), 0);
        due("10 round a cell south of it", Due.judge(x, 2, "NWWSEE"), 9);
        due("11 along it", Due.lay(x, 1, "ESWN"), 0);
        x.lift(0);
        due("9 only his own", x.takes(9, 1), 1);
        due("9 his own", x.takes(2, 2), 0);
    }

    /** Promise 12. */
    private static void lift() {
        RopeRound x = onField();
        due("12 none", x.lift(0), STATE);
        Due.lay(x, 0, "EESSWWNN");
        due("12 lift", x.lift(0), 10);
        due("12 taken up", x.count(5), 0);
        due("12 nobody's", x.whose(8), NONE);
        due("12 again", x.lift(0), STATE);
        due("12 no man", x.lift(3), BAD);
        due("12 man -1", x.lift(-1), BAD);
    }

    /** Promise 13. */
    private static void man() {
        RopeRound x = onField();
        due("13 peg", x.man(2, 0), 28);
        due("13 rope", x.man(2, 1), 10);
        due("13 no ring", x.man(2, 2), NONE);
        due("13 no cells", x.man(2, 3), NONE);
        due("13 lay", Due.lay(x, 1, "WWSSENEN"), 5);
        due("13 worth", x.man(1, 2), 5);
        due("13 cells, water too", x.man(1, 3), 3);
        due("13 no man", x.man(3, 0), BAD);
        due("13 man -1", x.man(-1, 0), BAD);
        due("13 what 4", x.man(0, 4), BAD);
        due("13 what -1", x.man(0, -1), BAD);
    }

    /** Promise 14. */
    private static void whose() {
        RopeRound x = onField();
        due("14 nobody's", x.whose(9), NONE);
        Due.lay(x, 1, "WWSSENEN");
        due("14 water", x.whose(9), 1);
        due("14 land", x.whose(3), 1);
        due("14 beside", x.whose(8), NONE);
        due("14 x 4", x.whose(4), BAD);
        due("14 y 3", x.whose(21), BAD);
        due("14 -1", x.whose(-1), BAD);
        due("14 min", x.whose(MIN), BAD);
    }

    private static void ring(RopeRound x, int corner, int l, int worth, String letters) {
        String call = "15 most " + corner + " " + l + " ";
        due(call + -2, x.most(corner, l, -2), worth);
        due(call + -1, x.most(corner, l, -1), letters.length());
        int[] ways = Due.steps(letters);
        for (int k = 0; k < ways.length; k++) {
            due(call + k, x.most(corner, l, k), ways[k]);
        }
        due(call + ways.length, x.most(corner, l, ways.length), NONE);
    }

    private static void noRing(RopeRound x, int corner, int l) {
        for (int k = -2; k < 13; k++) {
            due("15 no ring from " + corner + " by " + l, x.most(corner, l, k), NONE);
        }
    }

    /** Promise 15. */
    private static void most() {
        RopeRound x = onField();
        noRing(x, 0, 3);
        ring(x, 0, 4, 0, "ESWN");
        ring(x, 0, 6, 1, "EESWWN");
        ring(x, 4, 6, 5, "SWSWNNEE");
        due("15 BAD stone", x.most(20, 6, 0), BAD);
        due("15 corner 5", x.most(5, 6, 0), BAD);
        due("15 corner -1", x.most(-1, 6, 0), BAD);
        due("15 l -1", x.most(0, -1, 0), BAD);
        due("15 l 13", x.most(0, 13, 0), BAD);
        due("15 k -3", x.most(0, 12, -3), BAD);
        due("15 k max", x.most(0, 12, MAX), NONE);
        due("15 lay", Due.lay(x, 0, "EESWWN"), 1);
        noRing(x, 0, 12);
        ring(x, 4, 6, 14, "SWSWWNENEE");
        Due.read(x, "row www;row www;row www;man 0 0 12;");
        ring(x, 0, 0, 0, "EEESSSWWWNNN");
        Due.read(x, "row bbbbbbb;row bbbbbbb;row bbbbbbb;row bbbbbbb;man 3 2 12;");
        ring(x, 19, 12, 9, "NNEEESSSWWWN");
        Due.read(x, "row bbb;row bbb;row bbb;stone 1 1;stone 2 1;stone 1 2;stone 2 2;man 0 0 12;");
        ring(x, 0, 12, 9, "EEESSSWWWNNN");
        noRing(x, 0, 11);
    }

    /** Promise 16. */
    private static void tied() {
        RopeRound x = on("row jaaaaj;man 0 0 2;man 6 0 4;man 1 1 3;man 0 1 12;", 4);
        due("16 too short", x.tied(1), 0);
        due("16 one", x.tied(2), 9);
        due("16 together, from the least one's", x.tied(5), 9);
        due("16 the others", x.tied(6), 9);
        due("16 all: twelve", x.tied(15), 9);
        due("16 set 0", x.tied(0), BAD);
        due("16 set 16", x.tied(16), BAD);
        due("16 set -1", x.tied(-1), BAD);
        due("16 set max", x.tied(MAX), BAD);
        Due.read(x, "row bbbb;row bbbb;row bbbb;row bbbb;man 0 0 12;man 0 0 12;");
        due("16 twelve at most", x.tied(3), 9);
    }

    /** Promise 17. */
    private static void shares() {
        RopeRound x = on("row bbbb;row bbbb;man 0 0 4;man 4 2 6;", 2);
        due("17 alone 0", x.tied(1), 1);
        due("17 alone 1", x.tied(2), 2);
        due("17 together", x.tied(3), 6);
        due("17 man 0 has least", x.shares(0), 1);
        due("17 man 1 the rest", x.shares(1), 5);
        due("17 no man", x.shares(2), BAD);
        due("17 man -1", x.shares(-1), BAD);
        Due.read(x, "row bbbb;row bbbb;man 0 0 4;man 4 2 4;man 4 0 4;");
        due("17 pair", x.tied(6), 4);
        due("17 all", x.tied(7), 8);
        due("17 0 of three", x.shares(0), 1);
        due("17 1 of three", x.shares(1), 3);
        due("17 2 of three", x.shares(2), 4);
        Due.read(x, "row aaahd;man 0 0 4;man 5 0 4;man 2 1 4;");
        due("17 man 0 nothing", x.shares(0), 0);
        due("17 then man 1 what he has alone", x.shares(1), 3);
        due("17 and man 2 the rest", x.shares(2), 7);
        Due.read(x, "row faaaf;man 0 0 4;man 5 0 4;man 5 1 4;");
        due("17 all together have less than each alone", x.tied(7), 10);
        due("17 each leaves", x.shares(0), NONE);
        Due.read(x, "row adeda;man 0 0 4;man 5 0 4;man 5 1 4;");
        due("17 all have less than the pairs", x.tied(7) * 100 + x.tied(5) * 10 + x.tied(6), 1077);
        due("17 a pair leaves", x.shares(1), NONE);
        Due.read(x, "row adecb;man 0 0 4;man 5 0 4;man 5 1 4;");
        due("17 likewise", x.shares(2), NONE);
        Due.read(x, "row aj;man 0 0 4;man 2 0 4;man 2 1 4;");
        due("17 nobody stays", x.shares(0), NONE);
        due("17 nor he", x.shares(2), NONE);
        Due.read(x, "row aj;man 2 0 4;");
        due("17 one man", x.shares(0), 9);
        Due.read(x, "row aj;man 2 0 4;man 2 0 4;man 2 0 4;man 2 0 4;");
        due("17 four men", x.shares(0), BAD);
    }

    /** Promise 18. */
    private static void least() {
        RopeRound x = on("row ajb;man 0 0 6;man 3 0 4;man 0 1 1;", 3);
        due("18 b without", x.most(3, 4, -2), 1);
        due("18 a takes nothing from b", x.least(0, 1, 0), 1);
        due("18 a has most", x.least(0, 1, 1), 9);
        due("18 a is too short to hurt b", x.least(1, 0, 0), 9);
        due("18 and has little", x.least(1, 0, 1), 1);
        due("18 a has none", x.least(2, 0, 0), NONE);
        due("18 a has none, worth", x.least(2, 0, 1), NONE);
        due("18 alike", x.least(1, 1, 0), BAD);
        due("18 no a", x.least(3, 1, 0), BAD);
        due("18 no b", x.least(1, -1, 0), BAD);
        due("18 what 2", x.least(0, 1, 2), BAD);
        due("18 what -1", x.least(0, 1, -1), BAD);
        Due.lay(x, 1, "WSEN");
        due("18 a who has a ring", x.least(1, 0, 0), BAD);
        due("18 b who has one", x.least(0, 1, 0), 0);
        Due.read(x, "row ajb;man 3 0 6;man 0 0 6;");
        due("18 a takes it from b", x.least(0, 1, 0), 0);
        due("18 for himself", x.least(0, 1, 1), 10);
        Due.read(x, "row aaj;man 0 0 6;man 3 0 3;");
        due("18 b's rope is short", x.most(3, 3, -2), NONE);
        due("18 a does not lay beside b", x.least(0, 1, 0), 0);
        Due.read(x, "row aj;man 0 0 4;man 2 0 3;");
        due("18 a cannot but help b", x.least(0, 1, 0), 9);
        Due.read(x, "row jjjj;row aaaa;row aaaa;man 0 0 12;man 4 0 12;");
        due("18 eight steps of a, eight of b", x.least(0, 1, 0), 9);
        due("18 and no more of a", x.least(0, 1, 1), 27);
        String land = "row aaaaaaa;";
        Due.read(x, land.repeat(3) + "row jaaaaaa;" + land.repeat(2) + "man 3 3 12;man 3 3 12;");
        due("18 one of all rings from the middle", x.least(0, 1, 0), 0);
        due("18 that one", x.least(0, 1, 1), 9);
    }

    /** Promise 19. */
    private static void wet() {
        RopeRound x = on("row bj;man 0 0 6;man 2 0 3;", 2);
        due("19 dry", x.wet(0, 0), 0);
        due("19 5.4", x.wet(0, 10), 9);
        due("19 4.02", x.wet(0, 33), 9);
        due("19 3.96", x.wet(0, 34), 10);
        due("19 all", x.wet(0, 100), 10);
        due("19 none by either", x.wet(1, 50), 0);
        due("19 p 101", x.wet(0, 101), BAD);
        due("19 p -1", x.wet(0, -1), BAD);
        due("19 no man", x.wet(2, 0), BAD);
        due("19 man -1", x.wet(-1, 0), BAD);
    }

    /** Promise 20. */
    private static void found() {
        RopeRound x = on("row aaa;row aaa;man 0 0 6;", 1);
        x.row(0, 2, 12);
        due("20 all", x.found(0, 0, 0, 0), 6);
        x.set(0, 0, 2);
        due("20 by a corner", x.found(0, 0, 1, 0), 2);
        x.set(0, 1, 0);
        due("20 the peg, too", x.found(0, 0, 2, 0), 2);
        x.set(0, 1, 7);
        due("20 a cell as well", x.found(0, 0, 1, 1), 0);
        due("20 cells alone", x.set(0, 0, 7) * 100 + x.found(0, 0, 0, 1), 702);
        due("20 told twice", x.found(0, 0, 0, 2), 2);
        x.set(0, 0, 26);
        due("20 no corner", x.found(0, 0, 1, 0), -1000000 - 1);
        x.set(0, 0, 3);
        due("20 no cell", x.found(0, 0, 0, 1), BAD);
        due("20 a corner", x.found(0, 0, 1, 0), 0);
        x.set(0, 0, -1);
        due("20 -1", x.found(0, 0, 1, 0), BAD);
        due("20 n 7", x.found(0, 0, 7, 0), BAD);
        due("20 n -1", x.found(0, 0, -1, 0), BAD);
        due("20 m 7", x.found(0, 0, 0, 7), BAD);
        due("20 m -1", x.found(0, 0, 0, -1), BAD);
        due("20 row 8", x.found(0, 8, 0, 0), BAD);
        due("20 no man", x.found(1, 1, 0, 0), BAD);
        due("20 missing", x.found(0, 1, 0, 0), NULL);
        x.row(1, 0, 11);
        due("20 beyond", x.found(0, 1, 6, 6), PLACE);
        x.row(1, 0, 12);
        due("20 six and six", x.found(0, 1, 6, 6), 6);
        Due.read(x, "row wwwww;row aaaaa;man 0 0 12;");
        x.row(2, 0, 1);
        x.set(2, 0, 4);
        due("20 ten steps, no more", x.found(0, 2, 1, 0), 2);
    }

    /** Promise 21. */
    private static void image() {
        RopeRound x = new RopeRound();
        due("21 no ground", x.image(0), STATE);
        due("21 k 2", x.image(2), BAD);
        due("21 k -1", x.image(-1), BAD);
        Due.read(x, FIELD);
        Due.lay(x, 0, "EESWWN");
        due("21 kept", x.image(0), 1);
        due("21 as it is", x.count(5), 1);
        x.lift(0);
        due("21 the other one", x.image(1), 1);
        x.restore(0);
        due("21 with the ring", x.man(0, 2), 1);
        x.restore(1);
        due("21 without it", x.man(0, 2), NONE);
        due("21 anew", x.image(0), 1);
        x.restore(0);
        due("21 without it, too", x.man(0, 2), NONE);
    }

    /** Promise 22. */
    private static void restore() {
        RopeRound x = onField();
        due("22 none was kept", x.restore(0), STATE);
        due("22 k 2", x.restore(2), BAD);
        due("22 k -1", x.restore(-1), BAD);
        Due.lay(x, 0, "EESWWN");
        x.image(1);
        due("22 foretold, along the ring", x.most(4, 6, -2), 14);
        due("22 foretold at the peg", x.most(0, 12, -2), NONE);
        due("22 the other was not", x.restore(0), STATE);
        Due.read(x, "row j;man 0 0 4;");
        due("22 another ground", x.most(0, 4, -2), 9);
        Due.tape(x, "row");
        due("22 back", x.restore(1), 1);
        due("22 the tape stays", x.count(6), 3);
        due("22 wide", x.count(1), 4);
        due("22 men", x.count(4), 3);
        due("22 stones", x.count(3), 1);
        due("22 ring", x.whose(1), 0);
        due("22 rope along it", x.takes(0, 1), 0);
        due("22 the same is foretold", x.most(4, 6, -2), 14);
        x.lift(0);
        due("22 another thing is foretold", x.most(4, 6, -2), 5);
        due("22 at the peg, too", x.most(0, 8, -2), 12);
        due("22 as often as one likes", x.restore(1), 1);
        due("22 the first thing again", x.most(4, 6, -2), 14);
        due("22 at the peg again", x.most(0, 8, -2), NONE);
        due("22 the ring again", x.whose(1), 0);
    }

    /** Promise 23. */
    private static void kind() {
        RopeRound x = on("row gh;row jw;man 0 0 12;", 1);
        due("23 worth 6", x.kind(0), 1);
        due("23 worth 7", x.kind(1), 4);
        due("23 water", x.kind(8), 2);
        Due.lay(x, 0, "EESSWWNN");
        due("23 ringed", x.kind(0), 3);
        due("23 taken", x.kind(1), 5);
        due("23 water in a ring", x.kind(8), 2);
        due("23 no cell", x.kind(2), BAD);
        due("23 -1", x.kind(-1), BAD);
        due("23 14", x.kind(14), BAD);
    }

    private static void kinds(RopeRound x, int cell, String are) {
        for (int kind = 0; kind < 6; kind++) {
            boolean is = are.indexOf('0' + kind) >= 0;
            due("24 as " + cell + " " + kind, x.as(cell, kind), is ? cell : KIND);
            due("28 as " + cell + " " + kind, x.status(), is ? 0 : 3);
        }
    }

    /** Promise 24. */
    private static void as() {
        RopeRound x = on("row gh;row jw;man 0 0 12;", 1);
        kinds(x, 0, "01");
        kinds(x, 1, "014");
        kinds(x, 8, "02");
        Due.lay(x, 0, "EESSWWNN");
        kinds(x, 0, "013");
        kinds(x, 7, "0135");
        kinds(x, 8, "02");
        due("24 kind 6", x.as(0, 6), BAD);
        due("24 kind -1", x.as(0, -1), BAD);
        due("24 no cell", x.as(2, 0), BAD);
    }

    private static void asked(RopeRound x, int cell, int what, int answer, int... bodies) {
        String call = "25 ask " + cell + " " + what;
        due(call, x.ask(cell, what), answer);
        for (int i = 0; i < bodies.length; i++) {
            due("26 trace of " + call, x.trace(i), bodies[i]);
        }
        due("26 end of " + call, x.trace(bodies.length), NONE);
    }

    /** Promise 25. */
    private static void ask() {
        RopeRound x = on("row gh;row jw;man 0 0 0;man 0 0 12;", 2);
        asked(x, 0, 0, 6, 11, 10, 20);
        asked(x, 0, 1, 0, 20);
        asked(x, 1, 0, 1006, 13, 11, 10, 23, 20);
        asked(x, 1, 1, -1, 23, 20);
        asked(x, 8, 0, 0, 10);
        asked(x, 8, 1, -492, 21, 20, 10);
        Due.lay(x, 1, "EESSWWNN");
        asked(x, 0, 0, 212, 12, 11, 10, 22, 20);
        asked(x, 0, 1, 100, 22, 20);
        asked(x, 7, 0, -232, 14, 12, 11, 10, 22, 20);
        asked(x, 7, 1, 107, 22, 20);
        asked(x, 8, 1, -492, 21, 20, 10);
        due("25 no cell", x.ask(2, 0), BAD);
        due("25 what 2", x.ask(0, 2), BAD);
        due("25 what -1", x.ask(0, -1), BAD);
    }

    /** Promise 26. */
    private static void trace() {
        RopeRound x = onField();
        due("26 none", x.trace(0), NONE);
        x.ask(0, 0);
        due("26 the last", x.trace(2), 20);
        due("26 -1", x.trace(-1), NONE);
        due("26 3", x.trace(3), NONE);
        due("26 16", x.trace(16), NONE);
        due("26 max", x.trace(MAX), NONE);
        x.ask(-1, 0);
        due("26 what is refused changes nothing", x.trace(0), 11);
    }

    /** Promise 27. */
    private static void count() {
        RopeRound x = onField();
        x.row(4, 0, 1);
        Due.tape(x, "man");
        Due.lay(x, 0, "ESWN");
        int[] want = {2, 4, 3, 1, 3, 1, 3};
        for (int what = 0; what < want.length; what++) {
            due("27 count " + what, x.count(what), want[what]);
        }
        due("27 count 7", x.count(7), BAD);
        due("27 count -1", x.count(-1), BAD);
    }

    /** Promise 28. */
    private static void status() {
        RopeRound x = onField();
        x.row(0, 0, -1);
        due("28 SIZE", x.status(), 4);
        x.row(0, 9, 1);
        due("28 BAD leaves it", x.status(), 4);
        x.feed(0, 9);
        x.count(0);
        x.kind(0);
        due("28 others leave it", x.status(), 4);
        x.row(0, 0, 4);
        due("28 none", x.status(), 0);
        x.set(0, 4, 0);
        due("28 PLACE", x.status(), 2);
        x.row(1, 1, 1);
        x.copy(0, 0, 1, 0, 1);
        due("28 STORE", x.status(), 5);
        x.drop(2);
        due("28 NULL", x.status(), 1);
        x.judge(0, 0, 0, 4);
        due("28 a fault is no finding", x.status(), 0);
        x.judge(0, 0, 1, 4);
        due("28 PLACE of judge", x.status(), 2);
        x.lay(0, 3, 0, 4);
        due("28 NULL of lay", x.status(), 1);
        due("28 found", x.found(0, 0, 0, 0) > 0 ? x.status() : -1, 0);
        x.found(0, 0, 3, 3);
        due("28 PLACE of found", x.status(), 2);
        Due.fill(x, 0, 1, 2, 3, 0);
        x.lay(0, 0, 0, 4);
        x.as(0, 2);
        due("28 KIND", x.status(), 3);
        x.lay(0, 0, 0, 4);
        due("28 STATE leaves it", x.status(), 3);
        x.set(0, 0, 7);
        x.as(0, 2);
        x.judge(0, 0, 0, 4);
        due("28 BAD of an item leaves it", x.status(), 3);
        x.as(0, 0);
        due("28 as", x.status(), 0);
    }
}
