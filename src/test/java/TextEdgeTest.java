/** Terms 1 and promises 6 to 8, sentence by sentence: the TAPE, TEXTS and their FAULTS at each bound. */
public final class TextEdgeTest {
    private static final int NONE = -1000000, BAD = -1000001, STATE = -1000002, FULL = -1000003;
    private static final int MIN = Integer.MIN_VALUE, MAX = Integer.MAX_VALUE;

    private TextEdgeTest() {
    }

    private static void due(String call, long got, long want) {
        Due.due(call, got, want);
    }

    public static void main(String[] args) {
        newObject();
        tapeIsFull();
        feed();
        feedRefused();
        tokens();
        blanksBetween();
        orderOfSorts();
        rowsTold();
        stonesTold();
        menTold();
        inPlace();
        firstFault();
        theEnd();
        wrongNumbers();
        tooMany();
        ground();
        groundStays();
        fault();
        Due.end();
    }

    private static void good(String text, int men) {
        RopeRound x = new RopeRound();
        due(text, Due.read(x, text), men);
        due("no fault in " + text, x.fault(), 0);
    }

    private static void bad(String text, int place, int number) {
        RopeRound x = new RopeRound();
        due(text, Due.read(x, text), -1000100 - place);
        due("fault of " + text, x.fault(), number);
        due("no ground by " + text, x.count(4), 0);
    }

    private static void newObject() {
        Due.says("P1", "No GROUND.");
        RopeRound x = new RopeRound();
        for (int what = 0; what < 7; what++) {
            due("count " + what, x.count(what), 0);
        }
        due("no corner", x.takes(0, 1), BAD);
        due("no corner to begin at", x.most(0, 4, -2), BAD);
        due("no man to judge", x.judge(0, 0, 0, 0), BAD);
        due("no man to lay", x.lay(0, 0, 0, 0), BAD);
        due("no man to lift", x.lift(0), BAD);
        due("no man", x.man(0, 0), BAD);
        due("no cell of anybody", x.whose(0), BAD);
        due("no set", x.tied(1), BAD);
        due("no shares", x.shares(0), BAD);
        due("no two men", x.least(0, 1, 0), BAD);
        due("no rope", x.wet(0, 0), BAD);
        due("no man to find", x.found(0, 0, 0, 0), BAD);
        due("no image", x.image(0), STATE);
        due("none kept", x.restore(0), STATE);
        due("no kind", x.kind(0), BAD);
        due("as nothing", x.as(0, 0), BAD);
        due("nothing to ask", x.ask(0, 0), BAD);
        due("no trace", x.trace(0), NONE);
        due("no fault", x.fault(), 0);
        due("no finding", x.status(), 0);
    }

    private static RopeRound withBlanks(int n) {
        RopeRound x = new RopeRound();
        Due.tape(x, " ".repeat(n));
        due("blanks", x.count(6), n);
        return x;
    }

    private static void tapeIsFull() {
        Due.says("T1", "TEXTS: THE TAPE has at most 300 bytes;");
        RopeRound x = withBlanks(299);
        due("the last byte", x.feed(32, 1), 300);
        due("one more", x.feed(32, 1), FULL);
        due("300 stay", x.count(6), 300);
        due("all 300 are read", x.ground(), -1000400);
        due("room again", x.feed(32, 8), 8);
        String text = "row a;man 0 0 1;";
        x = withBlanks(300 - text.length());
        Due.tape(x, text);
        due("a text to the last byte", x.ground(), 1);
    }

    private static void feed() {
        Due.says("P6", "The lowest n bytes of w (1 to 8), the highest of them first, come behind the tape: how many it "
                + "has.");
        long w = 0x726f7720613b6d61L;
        RopeRound x = new RopeRound();
        due("8", x.feed(w, 8), 8);
        due("1", x.feed(0x726f7720613b6d6eL, 1), 9);
        due("behind", x.feed(0x7777777720302030L, 4), 13);
        due("2", x.feed(-1L << 16 | 0x2034L, 2), 15);
        due("1, whatever is above it", x.feed(MIN | 0x3bL, 1), 16);
        due("read as they came", x.ground(), 1);
        due("his rope", x.man(0, 1), 4);
        x = new RopeRound();
        int all = 0;
        for (int n = 1; n <= 8; n++) {
            all += n;
            due("n " + n, x.feed(-1L, n), all);
        }
        due("bytes 255 are no token", x.ground(), -1000100);
        due("told so", x.fault(), 1);
    }

    private static void feedRefused() {
        Due.says("P6", "BAD: n; FULL: none comes.");
        RopeRound x = withBlanks(296);
        int[] noCounts = {0, -1, 9, MIN, MAX};
        for (int n : noCounts) {
            due("n " + n, x.feed(0, n), BAD);
        }
        for (int n = 5; n <= 8; n++) {
            due("no room for " + n, x.feed(0, n), FULL);
            due("none came", x.count(6), 296);
        }
        due("BAD ahead of FULL", x.feed(0, 9), BAD);
        due("room for four", x.feed(0x20202020L, 4), 300);
        due("no room for one", x.feed(0, 1), FULL);
        due("BAD, not FULL", x.feed(0, 0), BAD);
        due("only blanks were read", x.ground(), -1000400);
    }

    private static void tokens() {
        Due.says("T1", "TOKENS: NAMES (letters a to z), NUMBERS (figures, 3 at most), SIGNS ;");
        for (int b = 0; b < 256; b++) {
            boolean letter = b >= 'a' && b <= 'z';
            boolean figure = b >= '0' && b <= '9';
            if (b != 32 && b != 10) {
                bad("row" + (char) b + "a;", letter ? 0 : 3, 1);
                bad("row a;stone 1" + (char) b + "0;man 0 0 1;", figure ? 12 : 13, figure ? 2 : 1);
            }
            if (b != ';' && b != 32 && b != 10) {
                bad("row a" + (char) b, letter ? b <= 'j' || b == 'w' ? 6 : 4 : 5, 1);
            }
        }
        good("row a;man 0 0 001;", 1);
        good("row a;man 000 000 012;", 1);
        bad("row a;man 0 0 0001;", 14, 1);
        bad("row a;man 0000 0 1;", 10, 1);
        bad("row a;man 0 0 999;", 14, 2);
        bad("row a;man 0 0 1000;", 14, 1);
        bad("row a;man 0 0 4294967296;", 14, 1);
        good("row a;man0 0 1;", 1);
    }

    private static void blanksBetween() {
        Due.says("T1", "bytes 32 and 10 between.");
        good("\n \nrow\n\na\n;\nman 0\n0\n \n1 ;\n\n", 1);
        good("row a;man 0 0 1;", 1);
        int[] noBlanks = {0, 9, 11, 12, 13, 31, 33, 127, 128, 160, 255};
        for (int b : noBlanks) {
            bad("row a;" + (char) b + "man 0 0 1;", 6, 1);
        }
        bad("rowa;man 0 0 1;", 0, 1);
        bad("row a;man 00 1;", 14, 1);
    }

    private static void orderOfSorts() {
        Due.says("T1", "ground: row { row } { stone } man { man }.");
        good("row a;man 0 0 1;", 1);
        good("row a;row a;man 0 0 1;man 0 0 1;", 2);
        good("row a;stone 1 1;stone 1 0;man 0 0 1;", 1);
        bad("stone 0 0;row a;man 0 0 1;", 0, 1);
        bad("man 0 0 1;", 0, 1);
        bad("row a;", 6, 1);
        bad("row a;stone 0 0;", 16, 1);
        bad("row a;stone 0 0;row a;man 1 1 1;", 16, 1);
        bad("row a;man 0 0 1;row a;", 16, 1);
        bad("row a;man 0 0 1;stone 1 1;", 16, 1);
        bad("row a;man 0 0 1;;", 16, 1);
        bad("row a;;man 0 0 1;", 6, 1);
        bad("row a;man 0 0 1;0", 16, 1);
    }

    private static void rowsTold() {
        Due.says("T1", "row: 'row' CELLS ';' (a NAME of 1 to 7 letters, each row of as many as the first: a .. j land of "
                + "worth 0 .. 9, w water; rows 0 .. 5, 6 at most).");
        for (char c = 'a'; c <= 'z'; c++) {
            RopeRound x = new RopeRound();
            boolean cell = c <= 'j' || c == 'w';
            due("row " + c, Due.read(x, "row " + c + ";man 0 0 4;"), cell ? 1 : -1000104);
            if (cell) {
                due("worth of " + c, x.most(0, 4, -2), c == 'w' ? 0 : c - 'a');
                due("water " + c, x.kind(0) == 2 ? 1 : 0, c == 'w' ? 1 : 0);
            }
        }
        for (int n = 1; n <= 7; n++) {
            RopeRound x = Due.on("row " + "a".repeat(n) + ";man 0 0 1;");
            due("wide " + n, x.count(1), n);
            due("the last cell", x.kind(n - 1), 1);
            due("no cell beyond", x.kind(n), BAD);
        }
        bad("row aaaaaaaa;man 0 0 1;", 4, 1);
        bad("row ;man 0 0 1;", 4, 1);
        bad("row aaa;row aa;man 0 0 1;", 12, 1);
        bad("row aaa;row aaaa;man 0 0 1;", 12, 1);
        bad("row aaa;row aaa;row a;man 0 0 1;", 20, 1);
        bad("row aaak;man 0 0 1;", 4, 1);
        bad("row aaa;row aka;man 0 0 1;", 12, 1);
        for (int n = 1; n <= 6; n++) {
            RopeRound x = Due.on("row a;".repeat(n) + "man 0 0 1;");
            due("high " + n, x.count(2), n);
            due("the last row", x.kind(7 * n - 7), 1);
            due("no row beyond", x.kind(7 * n), BAD);
        }
        bad("row a;".repeat(7) + "man 0 0 1;", 36, 3);
        good("row jaw;man 0 0 1;", 1);
        bad("row row;man 0 0 1;", 4, 1);
    }

    private static void stonesTold() {
        Due.says("T1", "stone: 'stone' X Y ';' (a CORNER; 8 at most).");
        for (int y = 0; y <= 2; y++) {
            for (int x = 0; x <= 3; x++) {
                String man = x == 0 && y == 0 ? "man 1 0 1;" : "man 0 0 1;";
                RopeRound it = Due.on("row aaa;row aaa;stone " + x + " " + y + ";" + man);
                due("one stone", it.count(3), 1);
                due("at " + x + ", " + y, it.most(x + 8 * y, 4, -2), BAD);
            }
        }
        bad("row aaa;row aaa;stone 4 0;man 0 0 1;", 22, 2);
        bad("row aaa;row aaa;stone 0 3;man 0 0 1;", 24, 2);
        bad("row aaa;row aaa;stone 3 3;man 0 0 1;", 24, 2);
        bad("row aaaaaaa;stone 8 0;man 0 0 1;", 18, 2);
        bad("row a;row a;row a;row a;row a;row a;stone 0 7;man 0 0 1;", 44, 2);
        String eight = "stone 0 0;stone 1 0;stone 2 0;stone 3 0;stone 0 1;stone 1 1;stone 2 1;stone 3 1;";
        RopeRound it = Due.on("row aaa;row aaa;" + eight + "man 0 2 1;");
        due("eight", it.count(3), 8);
        bad("row aaa;row aaa;" + eight + "stone 3 2;man 0 2 1;", 96, 3);
        it = Due.on("row a;" + "stone 1 1;".repeat(8) + "man 0 0 1;");
        due("eight at one corner", it.count(3), 1);
        bad("row a;" + "stone 1 1;".repeat(9) + "man 0 0 1;", 86, 3);
    }

    private static void menTold() {
        Due.says("T1", "man: 'man' X Y ROPE ';' (the CORNER of his peg, where no stone is; 0 to 12 steps; MEN 0 .. 3, "
                + "4 at most).");
        RopeRound x = Due.on("row aaa;row aaa;man 0 0 0;man 3 0 12;man 0 2 1;man 3 2 11;");
        int[] pegs = {0, 3, 16, 19};
        int[] ropes = {0, 12, 1, 11};
        for (int man = 0; man < 4; man++) {
            due("peg " + man, x.man(man, 0), pegs[man]);
            due("rope " + man, x.man(man, 1), ropes[man]);
        }
        due("no man 4", x.man(4, 0), BAD);
        bad("row aaa;man 4 0 1;", 12, 2);
        bad("row aaa;man 3 2 1;", 14, 2);
        bad("row aaa;man 3 1 13;", 16, 2);
        bad("row aaa;stone 3 1;man 3 1 13;", 24, 2);
        bad("row aaa;stone 3 1;man 0 0 1;man 3 1 1;", 34, 2);
        bad("row aaa;stone 0 0;stone 1 1;man 1 1 1;", 34, 2);
        good("row aaa;stone 3 1;man 2 1 1;man 3 0 1;", 2);
        good("row aaa;man 1 1 1;man 1 1 1;man 1 1 1;man 1 1 1;", 4);
        bad("row a;" + "man 1 1 1;".repeat(5), 46, 3);
    }

    private static void inPlace() {
        Due.says("T1", "A GROUND that is read stands in place of the one before (none at first): nothing is laid.");
        RopeRound x = Due.on("row jaw;row aaa;stone 3 2;man 0 0 12;man 3 0 12;");
        due("laid", Due.lay(x, 0, "ESWN"), 9);
        due("laid, too", Due.lay(x, 1, "SWNE"), 0);
        due("the new one", Due.read(x, "row bb;man 1 0 5;"), 1);
        int[] counts = {1, 2, 1, 0, 1, 0, 0};
        for (int what = 0; what < counts.length; what++) {
            due("count " + what, x.count(what), counts[what]);
        }
        due("peg", x.man(0, 0), 1);
        due("rope", x.man(0, 1), 5);
        due("no ring", x.man(0, 2), NONE);
        due("no cells", x.man(0, 3), NONE);
        due("nobody's", x.whose(0), NONE);
        due("a cell no more", x.whose(2), BAD);
        due("no rope runs there", x.takes(0, 1), 1);
        due("the same again", Due.read(x, "row jaw;row aaa;stone 3 2;man 0 0 12;man 3 0 12;"), 2);
        due("nothing is laid", x.count(5), 0);
        due("he lays anew", Due.lay(x, 0, "ESWN"), 9);
        x = Due.on("row jw;row wj;man 0 0 8;");
        due("foretold of the first", x.most(0, 8, -2), 18);
        Due.read(x, "row aa;row aa;man 0 0 8;");
        due("no worth is left of it", x.most(0, 8, -2), 0);
        due("no water is left of it", x.kind(1), 1);
        due("none that saves rope", x.takes(0, 2) + x.takes(1, 1), 2);
        Due.read(x, "row jj;row jj;man 0 0 8;");
        due("foretold of the third", x.most(0, 8, -2), 36);
    }

    private static void firstFault() {
        Due.says("T1", "FAULTS, the first TOKEN that has one (its first byte), of one TOKEN the least: 1 it cannot stand "
                + "there, or is none, or is a NAME of other letters or of another length where CELLS must be");
        bad("row aa;stone 9 9;man 9 9 99;?", 13, 2);
        bad("row aa;row aaa;stone 9 9;", 11, 1);
        bad("row aa;man 0 0 1;?stone", 17, 1);
        bad("   ?", 3, 1);
        bad("row ab ?;", 7, 1);
        bad("row kkkkkkkkk;", 4, 1);
        bad("bow a;man 0 0 1;", 0, 1);
        bad("rot a;man 0 0 1;", 0, 1);
        bad("ro a;man 0 0 1;", 0, 1);
        bad("rows a;man 0 0 1;", 0, 1);
        bad("row a;atone 1 1;man 0 0 1;", 6, 1);
        bad("row a;stony 1 1;man 0 0 1;", 6, 1);
        bad("row a;men 0 0 1;", 6, 1);
        bad("row a;ban 0 0 1;", 6, 1);
        bad("row a;may 0 0 1;", 6, 1);
        bad("row a;mans 0 0 1;", 6, 1);
        // A number of four figures is not as told either, and a row that cannot stand there is one too many, too.
        bad("row a;stone 9999 0;", 12, 1);
        bad("row a;".repeat(6) + "stone 0 0;row a;", 46, 1);
        bad("row a;" + "stone 0 0;".repeat(8) + "man 1 1 1;stone 0 0;", 96, 1);
        String[] tokens = {"row", "aa", ";", "stone", "2", "1", ";", "man", "0", "1", "7", ";"};
        String[] strangers = {"?", "zz", ";", "1234", "0", "row", "stone", "man", "aa", "aaa"};
        for (int k = 0; k < tokens.length; k++) {
            StringBuilder ahead = new StringBuilder();
            for (int i = 0; i < k; i++) {
                ahead.append(tokens[i]).append(' ');
            }
            for (String stranger : strangers) {
                if (!canStand(k, stranger)) {
                    bad(ahead + stranger + " ", ahead.length(), 1);
                }
            }
        }
    }

    /** Whether a stranger may stand at place k of: row aa ; stone 2 1 ; man 0 1 7 ; */
    private static boolean canStand(int k, String stranger) {
        boolean number = stranger.equals("0");
        switch (k) {
            case 0:
                return stranger.equals("row");
            case 1:
                return stranger.equals("aa") || stranger.equals("aaa");
            case 2: case 6: case 11:
                return stranger.equals(";");
            case 3:
                return stranger.equals("row") || stranger.equals("stone") || stranger.equals("man");
            case 7:
                return stranger.equals("stone") || stranger.equals("man");
            default:
                return number;
        }
    }

    private static void theEnd() {
        Due.says("T1", "(the end: how many bytes there are);");
        String[] tokens = {"row", "aa", ";", "stone", "2", "1", ";", "man", "0", "1", "7", ";"};
        StringBuilder text = new StringBuilder();
        bad("", 0, 1);
        bad("\n  ", 3, 1);
        for (int k = 0; k < tokens.length; k++) {
            text.append(tokens[k]);
            if (k < tokens.length - 1) {
                bad(text.toString(), text.length(), 1);
                text.append(' ');
                bad(text.toString(), text.length(), 1);
                bad(text + "\n \n", text.length() + 3, 1);
            }
        }
        good(text.toString(), 1);
        good(text + "\n \n", 1);
        bad(" ".repeat(300), 300, 1);
    }

    private static void wrongNumbers() {
        Due.says("T1", "2 a NUMBER that is not as told (Y of a peg where a stone is);");
        good("row aa;stone 2 1;man 1 1 12;", 1);
        bad("row aa;stone 3 1;man 1 1 12;", 13, 2);
        bad("row aa;stone 2 2;man 1 1 12;", 15, 2);
        bad("row aa;stone 2 1;man 3 1 12;", 21, 2);
        bad("row aa;stone 2 1;man 1 2 12;", 23, 2);
        bad("row aa;stone 2 1;man 1 1 13;", 25, 2);
        bad("row aa;stone 2 1;man 2 1 12;", 23, 2);
        bad("row aa;stone 2 1;man 2 001 12;", 23, 2);
        bad("row aa;stone 002 01;man 2 1 12;", 26, 2);
        bad("row aa;stone 999 1;man 1 1 12;", 13, 2);
        bad("row aa;stone 2 1;man 2 1", 23, 2);
        bad("row aa;stone 2 1;man 3", 21, 2);
        good("row aa;stone 2 1;man 2 0 12;", 1);
        good("row aa;stone 2 1;man 0 1 12;", 1);
    }

    private static void tooMany() {
        Due.says("T1", "3 more of a sort than there is room for (its word).");
        bad("row a;".repeat(6) + " row", 37, 3);
        bad("row a;".repeat(6) + "row kk", 36, 3);
        bad("row a;".repeat(6) + "rows", 36, 1);
        bad("row a;" + "stone 0 0;".repeat(8) + "\nstone", 87, 3);
        bad("row a;" + "stone 0 0;".repeat(8) + "stone 9", 86, 3);
        bad("row a;" + "man 0 0 0;".repeat(4) + "\n man", 48, 3);
        bad("row a;" + "man 0 0 0;".repeat(4) + "man 9 9 99", 46, 3);
        good("row a;".repeat(6) + "stone 0 0;".repeat(8) + "man 1 1 1;".repeat(4), 4);
    }

    private static void ground() {
        Due.says("P7", "The tape, empty then, is read: how many MEN there are.");
        for (int men = 1; men <= 4; men++) {
            RopeRound x = new RopeRound();
            due(men + " men", Due.read(x, "row a;" + "man 0 0 0;".repeat(men)), men);
            due("counted", x.count(4), men);
            due("the tape is empty", x.count(6), 0);
            due("nothing more to read", x.ground(), -1000100);
            due("the men stay", x.count(4), men);
        }
    }

    private static void groundStays() {
        Due.says("P7", "-1000100 less the place of a FAULT: all stays.");
        RopeRound x = Due.on("row ja;row aw;stone 2 2;man 0 0 12;man 2 0 3;");
        Due.lay(x, 0, "ESWN");
        x.image(1);
        x.ask(0, 1);
        due("at place 0", Due.read(x, "?"), -1000100);
        due("at place 299", Due.read(x, " ".repeat(299) + "?"), -1000399);
        due("at place 300", Due.read(x, " ".repeat(300)), -1000400);
        due("in the last man", Due.read(x, "row b;man 0 0 1;man 0 0 13;"), -1000124);
        int[] counts = {1, 2, 2, 1, 2, 1, 0};
        for (int what = 0; what < counts.length; what++) {
            due("count " + what, x.count(what), counts[what]);
        }
        due("the ring", x.man(0, 2), 9);
        due("the peg of the other", x.man(1, 0), 2);
        due("his rope", x.man(1, 1), 3);
        due("kind of the ringed cell", x.kind(0), 5);
        due("the water", x.kind(8), 2);
        due("rope saved", x.takes(0, 1), 0);
        due("the trace", x.trace(0), 22);
        due("the image", x.restore(1), 1);
        due("with its ring", x.count(5), 1);
    }

    private static void fault() {
        Due.says("P8", "The number of the latest FAULT; 0 before one.");
        RopeRound x = new RopeRound();
        due("before one", x.fault(), 0);
        Due.read(x, "row a;man 0 0 1;");
        due("behind a good text", x.fault(), 0);
        Due.read(x, "row a;".repeat(7));
        due("3", x.fault(), 3);
        Due.read(x, "row a;stone 2");
        due("2", x.fault(), 2);
        due("once more", x.fault(), 2);
        Due.read(x, "row a;man 0 0 1;");
        due("a good text leaves it", x.fault(), 2);
        Due.read(x, "?");
        due("1", x.fault(), 1);
    }
}
