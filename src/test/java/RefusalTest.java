import java.util.function.ToIntFunction;

/** Terms 0: the numbers of refusals and FINDINGS, which of several comes first, and that nothing changes by them. */
public final class RefusalTest {
    private static final int NONE = -1000000, BAD = -1000001, STATE = -1000002, FULL = -1000003;
    private static final int NULL = 1, PLACE = 2, KIND = 3, SIZE = 4, STORE = 5;
    private static final int MIN = Integer.MIN_VALUE, MAX = Integer.MAX_VALUE;

    /** What the last call with a row in Seen.something() found. */
    private static final int BEFORE = STORE;

    private static final String UNTOUCHED = Seen.of(Seen.something());

    private RefusalTest() {
    }

    public static void main(String[] args) {
        calls();
        theNumbers();
        seenAreDifferent();
        rowsRefused();
        textsRefused();
        layingsRefused();
        foretoldRefused();
        askedRefused();
        found();
        faultsChangeNothing();
        foretoldChangesNothing();
        asked();
        fromNothing();
        Due.end();
    }

    private static void due(String call, long got, long want) {
        Due.due(call, got, want);
    }

    private static void calls() {
        Due.says("W0", "An object is used for at most 512 calls after it has been made; what later calls answer is free.");
        RopeRound x = new RopeRound();
        for (int call = 1; call <= 512; call += 4) {
            due("call " + call, x.row(0, 0, 3), 3);
            due("call " + call + " and 1", x.set(0, 0, call), (byte) call);
            due("call " + call + " and 2", x.drop(0), 3);
            due("call " + call + " and 3", x.feed(32, 1), call / 4 + 1);
        }
    }

    private static void theNumbers() {
        due("NONE", RopeRound.NONE, NONE);
        due("BAD", RopeRound.BAD, BAD);
        due("STATE", RopeRound.STATE, STATE);
        due("FULL", RopeRound.FULL, FULL);
        Due.says("T0", "Numbers go from 0 on.");
        RopeRound x = Seen.something();
        due("row 0", x.set(0, 0, 2), 2);
        due("man 0", x.man(0, 0), 0);
        due("cell 0", x.kind(0), 1);
        due("corner 0", x.takes(0, 1), 1);
        due("step 0", Due.judge(x, 0, "N"), -1000300);
        due("image 0", x.image(0), 1);
        Due.says("T0", "Sets are bits.");
        x = Due.on("row baa;row aac;man 0 0 4;man 3 2 4;man 3 0 0;");
        int[] tied = {1, 2, 1, 0, 1, 2, 1};
        for (int set = 1; set < 8; set++) {
            due("set " + set, x.tied(set), tied[set - 1]);
        }
    }

    private static void sees(String change, ToIntFunction<RopeRound> call) {
        RopeRound x = Seen.something();
        call.applyAsInt(x);
        Due.holds("it is seen: " + change, !Seen.of(x).equals(UNTOUCHED));
    }

    /** Whether Seen sees what it must, so that what follows is worth something. */
    private static void seenAreDifferent() {
        Due.says("T0", "What is refused, or found, changes nothing but status().");
        Due.holds("two alike", Seen.of(Seen.something()).equals(UNTOUCHED));
        sees("another item", x -> x.set(0, 4, 2));
        sees("north, not west", x -> x.set(2, 0, 0));
        sees("south, not east", x -> x.set(0, 0, 2));
        sees("no way at all", x -> x.set(1, 1, 4));
        sees("another lane", x -> x.row(3, 1, 0));
        sees("a row", x -> x.row(7, 0, 1));
        sees("no row", x -> x.drop(3));
        sees("a byte", x -> x.feed(65, 1));
        sees("a blank", x -> x.feed(32, 1));
        sees("another ground", x -> x.ground());
        sees("a ring", x -> Due.lay(x, 0, "ESWN"));
        sees("no ring", x -> x.lift(1));
        sees("another image", x -> x.image(0));
        sees("one more image", x -> x.image(1));
        sees("what was", x -> x.restore(0));
        sees("another trace", x -> x.ask(0, 1));
    }

    /** A call that changes nothing; status() tells that number behind it. */
    private static void still(String name, int want, int status, ToIntFunction<RopeRound> call) {
        RopeRound x = Seen.something();
        due("before " + name + " status()", x.status(), BEFORE);
        due(name, call.applyAsInt(x), want);
        due("behind " + name + " status()", x.status(), status);
        Due.holds("nothing changes by " + name, Seen.of(x).equals(UNTOUCHED));
    }

    private static void refused(String name, int want, ToIntFunction<RopeRound> call) {
        still(name, want, BEFORE, call);
    }

    private static void finds(String name, int finding, ToIntFunction<RopeRound> call) {
        still(name, -1000010 - finding, finding, call);
    }

    private static void says() {
        Due.says("T0", "Refusals are answers, the first of these that fits, but as told: BAD (a number is not as told; there "
                + "is no such thing), STATE (as told), FULL (as told), then FINDINGS,");
    }

    private static void rowsRefused() {
        says();
        refused("row: no row", BAD, x -> x.row(8, 0, 1));
        refused("row: no row, SIZE too", BAD, x -> x.row(-1, 0, -1));
        refused("row: no lane, SIZE too", BAD, x -> x.row(0, 3, -1));
        refused("row: too many", BAD, x -> x.row(0, 0, 41));
        refused("set: no row", BAD, x -> x.set(8, -1, 0));
        refused("copy: no a, NULL too", BAD, x -> x.copy(8, 0, 7, 0, 1));
        refused("copy: no b, NULL too", BAD, x -> x.copy(7, 0, -1, 0, 1));
        refused("drop: no row", BAD, x -> x.drop(8));
    }

    private static void textsRefused() {
        refused("feed: none", BAD, x -> x.feed(65, 0));
        refused("feed: nine", BAD, x -> x.feed(65, 9));
        RopeRound full = Seen.something();
        RopeRound twin = Seen.something();
        for (RopeRound x : new RopeRound[] {full, twin}) {
            Due.tape(x, " ".repeat(300 - 16 - 7));
        }
        due("293 are there", full.count(6), 293);
        due("feed: eight where seven have room", full.feed(65, 8), FULL);
        due("feed: nine where seven have room", full.feed(65, 9), BAD);
        due("status behind FULL", full.status(), BEFORE);
        Due.holds("nothing changes by FULL", Seen.of(full).equals(Seen.of(twin)));
        refused("takes: no corner", BAD, x -> x.takes(4, 0));
        refused("takes: no way", BAD, x -> x.takes(0, 4));
    }

    private static void layingsRefused() {
        refused("judge: no man, NULL too", BAD, x -> x.judge(3, 7, 0, 4));
        refused("judge: no row", BAD, x -> x.judge(0, 8, 0, 4));
        refused("judge: n, PLACE too", BAD, x -> x.judge(0, 0, -1, 21));
        refused("judge: an item", BAD, x -> x.judge(0, 2, 0, 3));
        refused("lay: no man, NULL too", BAD, x -> x.lay(-1, 7, 0, 4));
        refused("lay: no row, STATE too", BAD, x -> x.lay(1, 8, 0, 4));
        refused("lay: n, STATE too", BAD, x -> x.lay(1, 0, 0, 21));
        refused("lay: he has a ring", STATE, x -> x.lay(1, 0, 0, 4));
        refused("lay: he has a ring, NULL too", STATE, x -> x.lay(1, 7, 0, 4));
        refused("lay: he has a ring, PLACE too", STATE, x -> x.lay(1, 0, 5, 4));
        refused("lay: he has a ring, an item too", STATE, x -> x.lay(1, 2, 0, 3));
        refused("lay: an item", BAD, x -> x.lay(0, 2, 0, 3));
        refused("lift: no man", BAD, x -> x.lift(3));
        refused("lift: no ring", STATE, x -> x.lift(0));
        refused("man: no man", BAD, x -> x.man(3, 0));
        refused("man: no such thing", BAD, x -> x.man(0, 4));
        refused("whose: no cell", BAD, x -> x.whose(3));
    }

    private static void foretoldRefused() {
        refused("most: no corner", BAD, x -> x.most(4, 12, -2));
        refused("most: a stone", BAD, x -> x.most(3, 12, -2));
        refused("most: rope", BAD, x -> x.most(0, 13, -2));
        refused("most: k", BAD, x -> x.most(0, 12, -3));
        refused("tied: no set", BAD, x -> x.tied(8));
        refused("tied: nobody", BAD, x -> x.tied(0));
        refused("shares: no man", BAD, x -> x.shares(3));
        refused("least: alike", BAD, x -> x.least(0, 0, 0));
        refused("least: he has a ring", BAD, x -> x.least(1, 0, 0));
        refused("least: no such thing", BAD, x -> x.least(0, 1, 2));
        refused("wet: no man", BAD, x -> x.wet(3, 0));
        refused("wet: too much", BAD, x -> x.wet(0, 101));
        refused("found: no man, NULL too", BAD, x -> x.found(3, 7, 0, 0));
        refused("found: no row", BAD, x -> x.found(0, 8, 0, 0));
        refused("found: n, PLACE too", BAD, x -> x.found(0, 0, 7, 0));
        refused("found: m, NULL too", BAD, x -> x.found(0, 7, 0, 7));
        refused("found: no corner", BAD, x -> x.found(0, 2, 3, 0));
        refused("found: no cell", BAD, x -> x.found(0, 0, 0, 5));
        refused("image: no such", BAD, x -> x.image(2));
        refused("restore: no such", BAD, x -> x.restore(-1));
        refused("restore: none was kept", STATE, x -> x.restore(1));
    }

    private static void askedRefused() {
        refused("kind: no cell", BAD, x -> x.kind(3));
        refused("as: no cell, KIND too", BAD, x -> x.as(3, 2));
        refused("as: no kind", BAD, x -> x.as(0, 6));
        refused("ask: no cell", BAD, x -> x.ask(3, 0));
        refused("ask: no such ask", BAD, x -> x.ask(0, 2));
        refused("trace: not so many", NONE, x -> x.trace(16));
        refused("trace: below 0", NONE, x -> x.trace(MIN));
        refused("count: no such thing", BAD, x -> x.count(7));
    }

    private static void found() {
        Due.says("T0", "of several the first in time: -1000010 less 1 NULL (a ROW that is missing), 2 PLACE (no such place of "
                + "a ROW), 3 KIND (a CELL that is not that), 4 SIZE (fewer than none), 5 STORE (ROWS of two LANES).");
        finds("row: SIZE", SIZE, x -> x.row(0, 1, -1));
        finds("row: SIZE of one that is missing", SIZE, x -> x.row(7, 1, MIN));
        finds("set: NULL", NULL, x -> x.set(7, 0, 1));
        finds("set: NULL, no place too", NULL, x -> x.set(7, -1, 1));
        finds("set: PLACE", PLACE, x -> x.set(0, 5, 1));
        finds("set: PLACE of none", PLACE, x -> x.set(3, 0, 1));
        finds("copy: NULL of a", NULL, x -> x.copy(7, 0, 0, 0, 1));
        finds("copy: NULL of b", NULL, x -> x.copy(0, 0, 7, 0, 1));
        finds("copy: NULL, no place too", NULL, x -> x.copy(0, -1, 7, 0, 1));
        finds("copy: STORE", STORE, x -> x.copy(0, 0, 1, 0, 1));
        finds("copy: STORE, no place too", STORE, x -> x.copy(0, 9, 2, 0, 1));
        finds("copy: PLACE", PLACE, x -> x.copy(0, 1, 0, 0, 5));
        finds("copy: PLACE of b", PLACE, x -> x.copy(0, 0, 0, 1, 5));
        finds("copy: PLACE by n", PLACE, x -> x.copy(0, 0, 0, 0, -1));
        finds("drop: NULL", NULL, x -> x.drop(7));
        finds("judge: NULL, no place too", NULL, x -> x.judge(0, 7, -1, 4));
        finds("judge: PLACE", PLACE, x -> x.judge(0, 0, 2, 4));
        finds("judge: PLACE, an item too", PLACE, x -> x.judge(0, 2, 1, 3));
        finds("lay: NULL, no place too", NULL, x -> x.lay(0, 7, -1, 4));
        finds("lay: PLACE", PLACE, x -> x.lay(0, 0, MAX, 4));
        finds("lay: PLACE, an item too", PLACE, x -> x.lay(0, 2, 2, 2));
        finds("found: NULL, no place too", NULL, x -> x.found(0, 7, 6, 6));
        finds("found: PLACE", PLACE, x -> x.found(0, 0, 3, 3));
        finds("found: PLACE, an item too", PLACE, x -> x.found(0, 2, 2, 2));
        finds("as: KIND", KIND, x -> x.as(0, 2));
        finds("as: KIND of water", KIND, x -> x.as(1, 1));
    }

    private static void faultsChangeNothing() {
        Due.says("T0", "What is refused, or found, changes nothing but status().");
        still("judge: leaves", -1000300, 0, x -> x.judge(0, 0, 3, 1));
        still("judge: not at the peg", -1000601, 0, x -> x.judge(0, 0, 0, 1));
        still("judge: a ring", 0, 0, x -> x.judge(0, 0, 0, 4));
        still("lay: not at the peg", -1000603, 0, x -> x.lay(0, 0, 0, 3));
        still("lay: too few", -1000700, 0, x -> x.lay(0, 0, 0, 0));
        still("lay: no rope", -1000500, 0, x -> x.lay(2, 0, 1, 1));
    }

    private static void foretoldChangesNothing() {
        Due.says("T3", "FORETOLD (nothing changes; other RINGS lie as they do).");
        refused("most", 11, x -> x.most(0, 12, -2));
        refused("most: a step", 1, x -> x.most(0, 12, 0));
        refused("most: none", NONE, x -> x.most(0, 0, -1));
        refused("tied", 11, x -> x.tied(7));
        refused("shares", 11, x -> x.shares(0));
        refused("least", 0, x -> x.least(0, 1, 0));
        refused("least: worth", 11, x -> x.least(0, 1, 1));
        refused("least: the other", 11, x -> x.least(2, 0, 0));
        refused("wet", 11, x -> x.wet(0, 100));
        still("found", 14, 0, x -> x.found(0, 3, 0, 0));
    }

    private static void asked() {
        refused("takes", 0, x -> x.takes(10, 2));
        refused("takes: none", NONE, x -> x.takes(0, 0));
        refused("man", 18 + 1, x -> x.man(1, 0));
        refused("man: no ring", NONE, x -> x.man(0, 2));
        refused("whose", 1, x -> x.whose(9));
        refused("whose: nobody's", NONE, x -> x.whose(0));
        refused("kind", 2, x -> x.kind(1));
        still("as", 9, 0, x -> x.as(9, 3));
        refused("fault", 2, x -> x.fault());
        refused("trace", 12, x -> x.trace(0));
        refused("count", 4, x -> x.count(0));
        refused("status", BEFORE, x -> x.status());
        still("copy: none", 0, 0, x -> x.copy(0, 5, 0, 0, 0));
    }

    /** A new object refuses whatever needs a ground, a row, an image, and is as new behind it. */
    private static void fromNothing() {
        RopeRound x = new RopeRound();
        for (int i = -1; i <= 1; i++) {
            due("takes", x.takes(i, 0), BAD);
            due("judge", x.judge(i, 0, 0, 0), BAD);
            due("lay", x.lay(i, 0, 0, 0), BAD);
            due("lift", x.lift(i), BAD);
            due("man", x.man(i, 0), BAD);
            due("whose", x.whose(i), BAD);
            due("most", x.most(i, 0, 0), BAD);
            due("tied", x.tied(i), BAD);
            due("shares", x.shares(i), BAD);
            due("least", x.least(i, 1 - i, 0), BAD);
            due("wet", x.wet(i, 0), BAD);
            due("found", x.found(i, 0, 0, 0), BAD);
            due("image", x.image(i), i < 0 ? BAD : STATE);
            due("restore", x.restore(i), i < 0 ? BAD : STATE);
            due("kind", x.kind(i), BAD);
            due("as", x.as(i, 0), BAD);
            due("ask", x.ask(i, 0), BAD);
        }
        due("status", x.status(), 0);
        Due.holds("as new", Seen.of(x).equals(Seen.of(new RopeRound())));
    }
}
