/**
 * All that can be seen of an object by asking it, but for status(): two objects of which the same is seen are alike. To
 * look takes the rows and the tape away from the object, so look at each once.
 */
final class Seen {
    private static final String GROUND = "row awb;row cjd;stone 3 0;man 0 0 8;man 3 2 6;man 1 1 0;";
    private static final String TAPE = "row b;man 1 1 5;";
    private static final int[] CELLS = {0, 1, 2, 7, 8, 9};

    private final StringBuilder answers = new StringBuilder();

    private Seen() {
    }

    /** An object in which there is something of everything: rows, a tape, a ground, a ring, an image, a trace. */
    static RopeRound something() {
        RopeRound x = new RopeRound();
        Due.read(x, "row a;stone 9 9;");
        Due.read(x, GROUND);
        x.image(0);
        Due.lay(x, 1, "NWSE");
        x.drop(7);
        Due.fill(x, 0, 1, 2, 3, 0, 1);
        x.row(1, 1, 2);
        x.set(1, 1, 2);
        x.row(2, 2, 3);
        x.set(2, 0, 3);
        x.set(2, 2, -1);
        x.row(3, 0, 0);
        x.ask(9, 0);
        Due.tape(x, TAPE);
        x.copy(0, 0, 1, 0, 0);
        return x;
    }

    static String of(RopeRound x) {
        Seen seen = new Seen();
        seen.lookAtCounts(x);
        for (int i = 0; i < 8; i++) {
            seen.note(x.trace(i));
        }
        seen.lookAtGround(x);
        seen.lookAtRows(x);
        for (int k = 0; k < 2; k++) {
            seen.note(x.restore(k));
            seen.lookAtCounts(x);
            seen.note(x.whose(9));
        }
        seen.note(x.ground());
        seen.note(x.man(0, 0));
        seen.note(x.man(0, 1));
        seen.note(x.ask(0, 0));
        seen.note(x.fault());
        return seen.answers.toString();
    }

    private void note(int answer) {
        answers.append(answer).append(' ');
    }

    private void lookAtCounts(RopeRound x) {
        for (int what = 0; what < 7; what++) {
            note(x.count(what));
        }
        note(x.fault());
    }

    private void lookAtGround(RopeRound x) {
        for (int man = 0; man < 4; man++) {
            for (int what = 0; what < 4; what++) {
                note(x.man(man, what));
            }
        }
        for (int cell : CELLS) {
            note(x.kind(cell));
            note(x.whose(cell));
        }
        for (int corner = 0; corner < 20; corner++) {
            for (int way = 0; way < 4 && corner % 8 < 4; way++) {
                note(x.takes(corner, way));
            }
        }
        note(x.most(0, 8, -2));
        note(x.tied(7));
        note(x.least(0, 1, 1));
    }

    /** Men 0 and 2 tell the ways apart by one step: on this ground no two of them answer alike for both. */
    private void lookAtRows(RopeRound x) {
        for (int row = 0; row < 8; row++) {
            note(x.copy(row, 0, 0, 0, 0));
        }
        for (int row = 0; row < 8; row++) {
            for (int i = 0; i < 6; i++) {
                note(x.judge(0, row, i, 1));
                note(x.judge(2, row, i, 1));
            }
            note(x.set(row, 0, 70000));
            note(x.drop(row));
        }
    }
}
