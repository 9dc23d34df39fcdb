import java.util.ArrayList;
import java.util.Arrays;
import java.util.HashSet;
import java.util.List;
import java.util.Set;

/**
 * The document told once more in the slowest and plainest way, as a measure for RopeRound: a laying is a list of
 * steps, what is in it is what cannot be reached from outside, the most is found by comparing all.
 */
final class Plain {
    static final int NONE = -1000000, BAD = -1000001, STATE = -1000002, FULL = -1000003;
    private static final int[] DX = {0, 1, 0, -1}, DY = {-1, 0, 1, 0};

    /** What ends a call early, with its answer. */
    private static final class Stop extends RuntimeException {
        private static final long serialVersionUID = 1L;
        final int answer;

        Stop(int answer) {
            this.answer = answer;
        }
    }

    private static final class Field {
        List<String> lines = new ArrayList<>();
        Set<Integer> stones = new HashSet<>();
        List<int[]> men = new ArrayList<>();
        List<List<Integer>> rings = new ArrayList<>();

        Field twin() {
            Field f = new Field();
            f.lines = new ArrayList<>(lines);
            f.stones = new HashSet<>(stones);
            f.men = new ArrayList<>(men);
            f.rings = new ArrayList<>(rings);
            return f;
        }

        int wide() {
            return lines.get(0).length();
        }

        int high() {
            return lines.size();
        }

        char at(int x, int y) {
            return x < 0 || y < 0 || x >= wide() || y >= high() ? '#' : lines.get(y).charAt(x);
        }

        int worth(int x, int y) {
            return at(x, y) == 'w' ? 0 : at(x, y) - 'a';
        }
    }

    private final long[][] rows = new long[8][];
    private final int[] lanes = new int[8];
    private final StringBuilder tape = new StringBuilder();
    private Field field;
    private final Field[] images = new Field[2];
    private final List<Integer> trace = new ArrayList<>();
    private int fault = 0;
    private int status = 0;

    private static void bad(boolean is) {
        if (is) {
            throw new Stop(BAD);
        }
    }

    private void find(boolean is, int number) {
        if (is) {
            status = number;
            throw new Stop(-1000010 - number);
        }
    }

    private static boolean no(int n, int below) {
        return n < 0 || n >= below;
    }

    private void badMan(int man) {
        bad(field == null || no(man, field.men.size()));
    }

    private boolean isCorner(long c) {
        return field != null && c >= 0 && c % 8 <= field.wide() && c / 8 <= field.high();
    }

    private boolean isCell(long c) {
        return field != null && c >= 0 && c % 7 < field.wide() && c / 7 < field.high();
    }

    /** Every call by its name, so that a run is a list of names and numbers. */
    int call(String name, long... a) {
        int[] v = new int[a.length];
        for (int i = 0; i < v.length; i++) {
            v[i] = (int) a[i];
        }
        try {
            switch (name) {
                case "row": return row(v[0], v[1], v[2]);
                case "set": return set(v[0], v[1], v[2]);
                case "copy": return copy(v[0], v[1], v[2], v[3], v[4]);
                case "drop": return drop(v[0]);
                case "feed": return feed(a[0], v[1]);
                case "ground": return ground();
                case "fault": return fault;
                case "takes": return takes(v[0], v[1]);
                case "judge": return laid(v[0], v[1], v[2], v[3], false);
                case "lay": return laid(v[0], v[1], v[2], v[3], true);
                case "lift": return lift(v[0]);
                case "man": return man(v[0], v[1]);
                case "whose": return whose(v[0]);
                case "most": return most(v[0], v[1], v[2]);
                case "tied": return tied(v[0]);
                case "shares": return shares(v[0]);
                case "least": return least(v[0], v[1], v[2]);
                case "wet": return wet(v[0], v[1]);
                case "found": return found(v[0], v[1], v[2], v[3]);
                case "image": return image(v[0]);
                case "restore": return restore(v[0]);
                case "kind": return kind(v[0]);
                case "as": return as(v[0], v[1]);
                case "ask": return ask(v[0], v[1]);
                case "trace": return no(v[0], trace.size()) ? NONE : trace.get(v[0]);
                case "count": return count(v[0]);
                case "status": return status;
                default: throw new IllegalStateException(name);
            }
        } catch (Stop stop) {
            return stop.answer;
        }
    }

    private int row(int row, int lane, int n) {
        bad(no(row, 8) || no(lane, 3) || n > 40);
        find(n < 0, 4);
        rows[row] = new long[n];
        lanes[row] = lane;
        status = 0;
        return n;
    }

    private int set(int row, int i, int v) {
        bad(no(row, 8));
        find(rows[row] == null, 1);
        find(no(i, rows[row].length), 2);
        status = 0;
        rows[row][i] = lanes[row] == 0 ? (byte) v : lanes[row] == 1 ? (short) v : v;
        return (int) rows[row][i];
    }

    private int copy(int a, int i, int b, int j, int n) {
        bad(no(a, 8) || no(b, 8));
        find(rows[a] == null || rows[b] == null, 1);
        find(lanes[a] != lanes[b], 5);
        find(i < 0 || j < 0 || n < 0 || (long) i + n > rows[a].length || (long) j + n > rows[b].length, 2);
        long[] ahead = rows[a].clone();
        for (int k = 0; k < n; k++) {
            rows[b][j + k] = ahead[i + k];
        }
        status = 0;
        return n;
    }

    private int drop(int row) {
        bad(no(row, 8));
        find(rows[row] == null, 1);
        int n = rows[row].length;
        rows[row] = null;
        status = 0;
        return n;
    }

    private int feed(long w, int n) {
        bad(n < 1 || n > 8);
        if (tape.length() + n > 300) {
            return FULL;
        }
        for (int i = n - 1; i >= 0; i--) {
            tape.append((char) (w >>> (8 * i) & 255));
        }
        return tape.length();
    }

    // The text: tokens first, all of them, then the grammar over the list.

    private static final class Token {
        final String text;
        final int place;

        Token(String text, int place) {
            this.text = text;
            this.place = place;
        }

        boolean isName() {
            return text.matches("[a-z]+");
        }

        boolean isNumber() {
            return text.matches("[0-9]{1,3}");
        }
    }

    private static List<Token> tokens(String text) {
        List<Token> list = new ArrayList<>();
        java.util.regex.Matcher m = java.util.regex.Pattern.compile("[a-z]+|[0-9]+|[^ \\n]", java.util.regex.Pattern.DOTALL)
                .matcher(text);
        while (m.find()) {
            list.add(new Token(m.group(), m.start()));
        }
        list.add(new Token("", text.length()));
        return list;
    }

    private List<Token> read;
    private int next;

    private Stop wrong(int number) {
        fault = number;
        return new Stop(-1000100 - read.get(next).place);
    }

    private void word(String w, int sofar, int room) {
        if (!read.get(next).text.equals(w)) {
            throw wrong(1);
        }
        if (sofar == room) {
            throw wrong(3);
        }
        next++;
    }

    private int number(int most) {
        if (!read.get(next).isNumber()) {
            throw wrong(1);
        }
        int n = Integer.parseInt(read.get(next).text);
        if (n > most) {
            throw wrong(2);
        }
        next++;
        return n;
    }

    private void sign() {
        if (!read.get(next).text.equals(";")) {
            throw wrong(1);
        }
        next++;
    }

    private int ground() {
        read = tokens(tape.toString());
        next = 0;
        tape.setLength(0);
        Field f = new Field();
        do {
            word("row", f.lines.size(), 6);
            Token t = read.get(next);
            if (!t.text.matches("[a-jw]{1,7}") || !f.lines.isEmpty() && t.text.length() != f.wide()) {
                throw wrong(1);
            }
            f.lines.add(t.text);
            next++;
            sign();
        } while (read.get(next).text.equals("row"));
        int said = 0;
        while (read.get(next).text.equals("stone")) {
            word("stone", said++, 8);
            int x = number(f.wide());
            f.stones.add(x + 8 * number(f.high()));
            sign();
        }
        do {
            word("man", f.men.size(), 4);
            int x = number(f.wide());
            int y = number(f.high());
            if (f.stones.contains(x + 8 * y)) {
                next--;
                throw wrong(2);
            }
            f.men.add(new int[] {x + 8 * y, number(12)});
            f.rings.add(null);
            sign();
        } while (read.get(next).text.equals("man"));
        if (!read.get(next).text.isEmpty()) {
            throw wrong(1);
        }
        field = f;
        return f.men.size();
    }

    // Layings.

    private static int neighbour(int corner, int way) {
        return corner % 8 + DX[way] + 8 * (corner / 8 + DY[way]);
    }

    private boolean stays(int corner, int way) {
        int x = corner % 8 + DX[way];
        int y = corner / 8 + DY[way];
        return x >= 0 && y >= 0 && x <= field.wide() && y <= field.high() && !field.stones.contains(x + 8 * y);
    }

    /** An edge by its two ends, the lesser first. */
    private static int edge(int a, int b) {
        return Math.min(a, b) * 100 + Math.max(a, b);
    }

    private static Set<Integer> edges(int peg, List<Integer> steps) {
        Set<Integer> set = new HashSet<>();
        int at = peg;
        for (int way : steps) {
            set.add(edge(at, neighbour(at, way)));
            at = neighbour(at, way);
        }
        return set;
    }

    private int cost(int corner, int way) {
        int x = corner % 8;
        int y = corner / 8;
        char one;
        char other;
        switch (way) {
            case 0: one = field.at(x - 1, y - 1); other = field.at(x, y - 1); break;
            case 1: one = field.at(x, y - 1); other = field.at(x, y); break;
            case 2: one = field.at(x - 1, y); other = field.at(x, y); break;
            default: one = field.at(x - 1, y - 1); other = field.at(x - 1, y); break;
        }
        if ((one == 'w') != (other == 'w')) {
            return 0;
        }
        for (int man = 0; man < field.men.size(); man++) {
            if (field.rings.get(man) != null
                    && edges(field.men.get(man)[0], field.rings.get(man)).contains(edge(corner, neighbour(corner, way)))) {
                return 0;
            }
        }
        return 1;
    }

    /** The cells that cannot be reached from outside without crossing the rope. */
    private Set<Integer> inside(int peg, List<Integer> steps) {
        Set<Integer> rope = edges(peg, steps);
        int w = field.wide() + 2;
        int h = field.high() + 2;
        boolean[] out = new boolean[w * h];
        out[0] = true;
        boolean more = true;
        while (more) {
            more = false;
            for (int p = 0; p < w * h; p++) {
                int x = p % w - 1;
                int y = p / w - 1;
                for (int way = 0; way < 4 && !out[p]; way++) {
                    int qx = x + DX[way];
                    int qy = y + DY[way];
                    if (qx < -1 || qy < -1 || qx >= w - 1 || qy >= h - 1 || !out[qx + 1 + w * (qy + 1)]) {
                        continue;
                    }
                    int a;
                    int b;
                    switch (way) {
                        case 0: a = x + 8 * y; b = a + 1; break;
                        case 1: a = x + 1 + 8 * y; b = a + 8; break;
                        case 2: a = x + 8 * (y + 1); b = a + 1; break;
                        default: a = x + 8 * y; b = a + 8; break;
                    }
                    if (!rope.contains(edge(a, b))) {
                        out[p] = true;
                        more = true;
                    }
                }
            }
        }
        Set<Integer> in = new HashSet<>();
        for (int y = 0; y < field.high(); y++) {
            for (int x = 0; x < field.wide(); x++) {
                if (!out[x + 1 + w * (y + 1)]) {
                    in.add(x + 7 * y);
                }
            }
        }
        return in;
    }

    private int worth(Set<Integer> cells) {
        int sum = 0;
        for (int c : cells) {
            sum += field.worth(c % 7, c / 7);
        }
        return sum;
    }

    private int ringOf(int cell) {
        for (int man = 0; man < field.men.size(); man++) {
            if (field.rings.get(man) != null
                    && inside(field.men.get(man)[0], field.rings.get(man)).contains(cell)) {
                return man;
            }
        }
        return NONE;
    }

    /** The worth of a laying, or its fault as judge() tells it. */
    private int judged(int peg, int rope, List<Integer> steps) {
        List<Integer> been = new ArrayList<>(List.of(peg));
        int at = peg;
        int taken = 0;
        int n = steps.size();
        for (int s = 0; s < n; s++) {
            int way = steps.get(s);
            if (!stays(at, way)) {
                return -1000300 - s;
            }
            int to = neighbour(at, way);
            if (been.contains(to) && !(to == peg && s == n - 1)) {
                return -1000400 - s;
            }
            taken += cost(at, way);
            if (taken > rope) {
                return -1000500 - s;
            }
            at = to;
            been.add(at);
        }
        if (at != peg) {
            return -1000600 - n;
        }
        if (n < 4) {
            return -1000700 - n;
        }
        Set<Integer> in = inside(peg, steps);
        for (int c : in) {
            if (ringOf(c) != NONE) {
                return -1000800 - n;
            }
        }
        return worth(in);
    }

    /** All layings without a fault from a corner, by the order of their steps. */
    List<List<Integer>> layings(int corner, int rope, int most) {
        List<List<Integer>> all = new ArrayList<>();
        lengthen(corner, rope, most, new ArrayList<>(), new ArrayList<>(List.of(corner)), all);
        return all;
    }

    private void lengthen(int home, int rope, int most, List<Integer> steps, List<Integer> been, List<List<Integer>> all) {
        int at = been.get(been.size() - 1);
        if (!steps.isEmpty() && at == home) {
            if (judged(home, rope, steps) >= 0) {
                all.add(new ArrayList<>(steps));
            }
            return;
        }
        int far = Math.abs(at % 8 - home % 8) + Math.abs(at / 8 - home / 8);
        if (steps.size() + far > most) {
            return;
        }
        for (int way = 0; way < 4; way++) {
            if (stays(at, way) && steps.size() < most
                    && (neighbour(at, way) == home || !been.contains(neighbour(at, way)))) {
                steps.add(way);
                been.add(neighbour(at, way));
                lengthen(home, rope, most, steps, been, all);
                steps.remove(steps.size() - 1);
                been.remove(been.size() - 1);
            }
        }
    }

    List<Integer> best(int corner, int rope, int most) {
        List<Integer> found = null;
        int worth = -1;
        for (List<Integer> laying : layings(corner, rope, most)) {
            int w = worth(inside(corner, laying));
            if (w > worth || w == worth && laying.toString().compareTo(found.toString()) < 0) {
                worth = w;
                found = laying;
            }
        }
        return found;
    }

    private int worthOrNothing(int corner, int rope, int most) {
        List<Integer> found = best(corner, rope, most);
        return found == null ? 0 : worth(inside(corner, found));
    }

    private int takes(int corner, int way) {
        bad(!isCorner(corner) || no(way, 4));
        return stays(corner, way) ? cost(corner, way) : NONE;
    }

    private int laid(int man, int row, int i, int n, boolean really) {
        badMan(man);
        bad(no(row, 8) || n < 0 || n > 20);
        if (really && field.rings.get(man) != null) {
            return STATE;
        }
        find(rows[row] == null, 1);
        find(i < 0 || (long) i + n > rows[row].length, 2);
        List<Integer> steps = new ArrayList<>();
        for (int k = 0; k < n; k++) {
            bad(rows[row][i + k] < 0 || rows[row][i + k] > 3);
            steps.add((int) rows[row][i + k]);
        }
        status = 0;
        int answer = judged(field.men.get(man)[0], field.men.get(man)[1], steps);
        if (really && answer >= 0) {
            field.rings.set(man, steps);
        }
        return answer;
    }

    private int lift(int man) {
        badMan(man);
        if (field.rings.get(man) == null) {
            return STATE;
        }
        int w = worth(inside(field.men.get(man)[0], field.rings.get(man)));
        field.rings.set(man, null);
        return w;
    }

    private int man(int man, int what) {
        badMan(man);
        bad(no(what, 4));
        if (what < 2) {
            return field.men.get(man)[what];
        }
        if (field.rings.get(man) == null) {
            return NONE;
        }
        Set<Integer> in = inside(field.men.get(man)[0], field.rings.get(man));
        return what == 2 ? worth(in) : in.size();
    }

    private int whose(int cell) {
        bad(!isCell(cell));
        return ringOf(cell);
    }

    private int most(int corner, int l, int k) {
        bad(!isCorner(corner) || l < 0 || l > 12 || k < -2);
        bad(field.stones.contains(corner));
        List<Integer> ring = best(corner, l, 12);
        if (ring == null) {
            return NONE;
        }
        if (k == -2) {
            return worth(inside(corner, ring));
        }
        return k == -1 ? ring.size() : k < ring.size() ? ring.get(k) : NONE;
    }

    private int tied(int set) {
        bad(field == null || set < 1 || set >= 1 << field.men.size());
        int rope = 0;
        int peg = -1;
        for (int man = 0; man < field.men.size(); man++) {
            if ((set & 1 << man) != 0) {
                rope += field.men.get(man)[1];
                peg = peg < 0 ? field.men.get(man)[0] : peg;
            }
        }
        return worthOrNothing(peg, Math.min(12, rope), 12);
    }

    private int shares(int man) {
        badMan(man);
        int n = field.men.size();
        bad(n > 3);
        int[] gain = new int[1 << n];
        for (int set = 1; set < 1 << n; set++) {
            gain[set] = tied(set);
        }
        int all = gain[(1 << n) - 1];
        for (int a = 0; a <= all; a++) {
            for (int b = 0; b <= all; b++) {
                for (int c = 0; c <= all; c++) {
                    int[] has = {a, b, c};
                    boolean fits = a + b + c == all && (n > 1 || b == 0) && (n > 2 || c == 0);
                    for (int set = 1; fits && set < 1 << n; set++) {
                        int together = 0;
                        for (int i = 0; i < n; i++) {
                            together += (set & 1 << i) != 0 ? has[i] : 0;
                        }
                        fits = together >= gain[set];
                    }
                    if (fits) {
                        return has[man];
                    }
                }
            }
        }
        return NONE;
    }

    private int least(int a, int b, int what) {
        badMan(a);
        badMan(b);
        bad(a == b || no(what, 2) || field.rings.get(a) != null);
        int left = -1;
        int own = -1;
        int[] first = field.men.get(a);
        for (List<Integer> laying : layings(first[0], first[1], 8)) {
            int w = worth(inside(first[0], laying));
            field.rings.set(a, laying);
            int rest = worthOrNothing(field.men.get(b)[0], field.men.get(b)[1], 8);
            field.rings.set(a, null);
            if (left < 0 || rest < left || rest == left && w > own) {
                left = rest;
                own = w;
            }
        }
        return left < 0 ? NONE : what == 0 ? left : own;
    }

    private int wet(int man, int p) {
        badMan(man);
        bad(p < 0 || p > 100);
        int[] m = field.men.get(man);
        return worthOrNothing(m[0], m[1], 12) - worthOrNothing(m[0], m[1] * (100 - p) / 100, 12);
    }

    private int found(int man, int row, int n, int m) {
        badMan(man);
        bad(no(row, 8) || n < 0 || n > 6 || m < 0 || m > 6);
        find(rows[row] == null, 1);
        find(n + m > rows[row].length, 2);
        for (int i = 0; i < n + m; i++) {
            bad(i < n ? !isCorner(rows[row][i]) : !isCell(rows[row][i]));
        }
        status = 0;
        int fitting = 0;
        int peg = field.men.get(man)[0];
        for (List<Integer> laying : layings(peg, field.men.get(man)[1], 10)) {
            Set<Integer> met = new HashSet<>();
            int at = peg;
            for (int way : laying) {
                at = neighbour(at, way);
                met.add(at);
            }
            Set<Integer> in = inside(peg, laying);
            boolean fits = true;
            for (int i = 0; i < n + m; i++) {
                fits &= i < n ? met.contains((int) rows[row][i]) : in.contains((int) rows[row][i]);
            }
            fitting += fits ? 1 : 0;
        }
        return fitting;
    }

    private int image(int k) {
        bad(no(k, 2));
        if (field == null) {
            return STATE;
        }
        images[k] = field.twin();
        return 1;
    }

    private int restore(int k) {
        bad(no(k, 2));
        if (images[k] == null) {
            return STATE;
        }
        field = images[k].twin();
        return 1;
    }

    // Asks: by a chain of kinds for each ask, and the bodies that there are.

    /** The kinds that a cell is, the one that it is told as first. */
    private int[] kinds(int cell) {
        if (field.at(cell % 7, cell / 7) == 'w') {
            return new int[] {2, 0};
        }
        boolean rich = field.worth(cell % 7, cell / 7) >= 7;
        if (ringOf(cell) != NONE) {
            return rich ? new int[] {5, 3, 1, 0} : new int[] {3, 1, 0};
        }
        return rich ? new int[] {4, 1, 0} : new int[] {1, 0};
    }

    private int kind(int cell) {
        bad(!isCell(cell));
        return kinds(cell)[0];
    }

    private int as(int cell, int kind) {
        bad(!isCell(cell) || no(kind, 6));
        find(Arrays.stream(kinds(cell)).noneMatch(k -> k == kind), 3);
        status = 0;
        return cell;
    }

    private int ask(int cell, int what) {
        bad(!isCell(cell) || no(what, 2));
        trace.clear();
        return asked(cell, what);
    }

    private int asked(int cell, int what) {
        for (int kind : kinds(cell)) {
            int body = (what == 0 ? new int[] {10, 11, 0, 12, 13, 14} : new int[] {20, 0, 21, 22, 23, 0})[kind];
            if (body != 0) {
                return body(cell, body);
            }
        }
        throw new IllegalStateException();
    }

    private int body(int cell, int number) {
        if (trace.size() < 16) {
            trace.add(number);
        }
        switch (number) {
            case 10: return field.worth(cell % 7, cell / 7);
            case 11: return body(cell, 10) + asked(cell, 1);
            case 12: return 2 * body(cell, 11);
            case 13: return body(cell, 11) + 1000;
            case 14: return -body(cell, 12);
            case 20: return cell;
            case 21: return body(cell, 20) - asked(cell, 0) - 500;
            case 22: return body(cell, 20) + 100 * ringOf(cell);
            default: return -body(cell, 20);
        }
    }

    private int count(int what) {
        int n = 0;
        switch (what) {
            case 0:
                for (long[] row : rows) {
                    n += row == null ? 0 : 1;
                }
                return n;
            case 1: return field == null ? 0 : field.wide();
            case 2: return field == null ? 0 : field.high();
            case 3: return field == null ? 0 : field.stones.size();
            case 4: return field == null ? 0 : field.men.size();
            case 5:
                for (int man = 0; field != null && man < field.men.size(); man++) {
                    n += field.rings.get(man) == null ? 0 : 1;
                }
                return n;
            case 6: return tape.length();
            default: return BAD;
        }
    }

    /** For those who make up runs: the peg and rope of a man, null if there is no such man. */
    int[] pegAndRope(int man) {
        return field == null || no(man, field.men.size()) ? null : field.men.get(man);
    }
}
