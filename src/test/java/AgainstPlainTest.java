import java.util.ArrayList;
import java.util.Arrays;
import java.util.List;
import java.util.Random;

/** Runs that are made up, each call on RopeRound and on Plain: the answers are the same. Promises 1 to 28. */
public final class AgainstPlainTest {
    private final Random dice;
    private final RopeRound x = new RopeRound();
    private final Plain plain = new Plain();
    private final String run;
    private int calls = 0;

    private AgainstPlainTest(int seed) {
        dice = new Random(seed);
        run = "run " + seed;
    }

    public static void main(String[] args) {
        int runs = args.length > 1 ? Integer.parseInt(args[1]) : 300;
        for (int seed = 0; seed < runs && Due.wrong() < 20; seed++) {
            new AgainstPlainTest(seed).run(seed % 3 == 0);
        }
        Due.end();
    }

    private void run(boolean large) {
        for (int i = 0; i < 4; i++) {
            readGround(large);
            for (int k = 0; k < 10 && calls < 500; k++) {
                part();
            }
        }
    }

    private int upTo(int n) {
        return dice.nextInt(n + 1);
    }

    /** Mostly 0 to n, now and then one of the numbers that go wrong. */
    private int near(int n) {
        int[] odd = {-1, -2, n + 1, n + 2, 1000, Integer.MAX_VALUE, Integer.MIN_VALUE};
        return dice.nextInt(12) == 0 ? odd[dice.nextInt(odd.length)] : upTo(n);
    }

    private int corner() {
        return dice.nextInt(20) == 0 ? near(63) : upTo(width()) + 8 * upTo(height());
    }

    private int cell() {
        return dice.nextInt(20) == 0 ? near(50) : upTo(Math.max(0, width() - 1)) + 7 * upTo(Math.max(0, height() - 1));
    }

    private int width() {
        return plain.call("count", 1);
    }

    private int height() {
        return plain.call("count", 2);
    }

    private int man() {
        return dice.nextInt(15) == 0 ? near(4) : upTo(Math.max(0, plain.call("count", 4) - 1));
    }

    private int row() {
        return dice.nextInt(20) == 0 ? near(7) : upTo(3);
    }

    private int call(String name, long... a) {
        calls++;
        int want = plain.call(name, a);
        Due.due(run + ", call " + calls + ": " + name + Arrays.toString(a), answer(name, a), want);
        Due.due(run + ", status behind call " + calls, x.status(), plain.call("status"));
        return want;
    }

    private int answer(String name, long[] a) {
        int[] v = new int[5];
        for (int i = 0; i < a.length; i++) {
            v[i] = (int) a[i];
        }
        switch (name) {
            case "row": return x.row(v[0], v[1], v[2]);
            case "set": return x.set(v[0], v[1], v[2]);
            case "copy": return x.copy(v[0], v[1], v[2], v[3], v[4]);
            case "drop": return x.drop(v[0]);
            case "feed": return x.feed(a[0], v[1]);
            case "ground": return x.ground();
            case "fault": return x.fault();
            case "takes": return x.takes(v[0], v[1]);
            case "judge": return x.judge(v[0], v[1], v[2], v[3]);
            case "lay": return x.lay(v[0], v[1], v[2], v[3]);
            case "lift": return x.lift(v[0]);
            case "man": return x.man(v[0], v[1]);
            case "whose": return x.whose(v[0]);
            case "most": return x.most(v[0], v[1], v[2]);
            case "tied": return x.tied(v[0]);
            case "shares": return x.shares(v[0]);
            case "least": return x.least(v[0], v[1], v[2]);
            case "wet": return x.wet(v[0], v[1]);
            case "found": return x.found(v[0], v[1], v[2], v[3]);
            case "image": return x.image(v[0]);
            case "restore": return x.restore(v[0]);
            case "kind": return x.kind(v[0]);
            case "as": return x.as(v[0], v[1]);
            case "ask": return x.ask(v[0], v[1]);
            case "trace": return x.trace(v[0]);
            case "count": return x.count(v[0]);
            default: throw new IllegalStateException(name);
        }
    }

    // Grounds: mostly good texts, some with a byte put, changed or left out.

    private void readGround(boolean large) {
        String text = groundText(large);
        if (dice.nextInt(5) == 0) {
            text = spoilt(text);
        }
        int at = 0;
        while (at < text.length()) {
            int n = Math.min(text.length() - at, 1 + dice.nextInt(8));
            long w = dice.nextLong();
            for (int i = 0; i < n; i++) {
                w = w << 8 | text.charAt(at + i);
            }
            call("feed", w, n);
            at += n;
        }
        call("ground");
        call("fault");
    }

    private String groundText(boolean large) {
        int wide = 1 + dice.nextInt(large ? 7 : 5);
        int high = 1 + dice.nextInt(large ? 6 : 4);
        int waters = dice.nextInt(5);
        StringBuilder text = new StringBuilder();
        for (int y = 0; y < high; y++) {
            text.append("row ");
            for (int k = 0; k < wide; k++) {
                text.append(dice.nextInt(10) < waters ? 'w' : (char) ('a' + dice.nextInt(10)));
            }
            text.append(';').append(dice.nextInt(4) == 0 ? "\n" : "");
        }
        for (int i = dice.nextInt(4) * dice.nextInt(3); i > 0; i--) {
            text.append("stone ").append(upTo(wide)).append(' ').append(upTo(high)).append(";");
        }
        for (int i = 1 + dice.nextInt(4); i > 0; i--) {
            text.append("man ").append(upTo(wide)).append(' ').append(upTo(high)).append("  ")
                    .append(2 + dice.nextInt(11)).append(';');
        }
        return text.toString();
    }

    private String spoilt(String text) {
        String signs = "aw;z059 \nA\u00ff\0";
        int at = dice.nextInt(text.length());
        char sign = signs.charAt(dice.nextInt(signs.length()));
        switch (dice.nextInt(5)) {
            case 0: return text.substring(0, at) + text.substring(at + 1);
            case 1: return text.substring(0, at) + sign + text.substring(at + 1);
            case 2: return text.substring(0, at) + sign + text.substring(at);
            case 3: return text.substring(0, at);
            default:
                String[] parts = text.split("(?<=;)");
                return text.substring(0, text.indexOf(';') + 1) + parts[dice.nextInt(parts.length)].repeat(7) + text;
        }
    }

    private void part() {
        switch (dice.nextInt(12)) {
            case 0: rows(); break;
            case 1: case 2: case 3: layOne(); break;
            case 4: foretell(); break;
            case 5: foretellMore(); break;
            case 6: images(); break;
            case 7: case 8: askAll(); break;
            case 9: call("lift", man()); layRectangle(); break;
            case 10: stepsAndMen(); break;
            default: strayLaying(); break;
        }
    }

    private void rows() {
        call("row", row(), near(2), dice.nextInt(8) == 0 ? 40 + upTo(1) : near(9));
        call("row", row(), upTo(1), 12);
        call("set", row(), near(9), dice.nextInt());
        call("set", row(), near(9), dice.nextInt(400) - 200);
        for (int i = 0; i < 3; i++) {
            call("copy", row(), near(5), row(), near(5), near(5));
        }
        if (dice.nextInt(4) == 0) {
            call("drop", row());
        }
        call("count", near(6));
        if (dice.nextInt(30) == 0) {
            for (int i = 0; i < 40; i++) {
                call("feed", 0x2020202020202020L, 8);
            }
        }
        call("feed", dice.nextLong(), near(8));
        // Read at once, so that what stands on the tape does not spoil the next text.
        call("ground");
    }

    private void fill(int row, List<Integer> items) {
        call("row", row, dice.nextInt(3), items.size());
        for (int i = 0; i < items.size(); i++) {
            call("set", row, i, items.get(i));
        }
    }

    private void layOne() {
        int man = man();
        int[] his = plain.pegAndRope(man);
        if (his == null) {
            call("lay", man, row(), 0, 4);
            return;
        }
        List<List<Integer>> all = plain.layings(his[0], his[1] + dice.nextInt(3) / 2, 8);
        if (all.isEmpty()) {
            return;
        }
        List<Integer> steps = all.get(dice.nextInt(all.size()));
        int row = row() & 7;
        fill(row, steps);
        call("judge", man, row, 0, steps.size());
        call("lay", man, row, 0, steps.size());
        call("whose", cell());
        call("count", 5);
    }

    /** A rectangle by the peg, whatever lies there. */
    private void layRectangle() {
        int first = upTo(3);
        int second = first + 1 + 2 * upTo(1) & 3;
        int[] sides = {first, second, first ^ 2, second ^ 2};
        int[] lengths = {1 + upTo(2), 1 + upTo(2)};
        List<Integer> steps = new ArrayList<>();
        for (int side = 0; side < 4; side++) {
            for (int i = 0; i < lengths[side % 2]; i++) {
                steps.add(sides[side]);
            }
        }
        int row = row() & 7;
        fill(row, steps);
        int count = Math.max(1, plain.call("count", 4));
        for (int man = 0; man < count; man++) {
            call("judge", man, row, 0, steps.size());
        }
        call("lay", man(), row, 0, steps.size());
    }

    private void strayLaying() {
        int row = row() & 7;
        int n = dice.nextInt(10);
        call("row", row, 0, n);
        for (int i = 0; i < n; i++) {
            call("set", row, i, dice.nextInt(40) == 0 ? near(3) : upTo(3));
        }
        for (int i = 0; i < 6; i++) {
            int from = dice.nextInt(8) == 0 ? near(6) : 0;
            call("judge", man(), row, from, dice.nextInt(8) == 0 ? near(20) : upTo(n));
        }
        call("lay", man(), row(), near(3), upTo(n));
    }

    private void foretell() {
        int corner = corner();
        int l = near(12);
        for (int k = -3; k < 13; k += 1 + dice.nextInt(2)) {
            call("most", corner, l, k);
        }
        call("wet", man(), near(100));
        call("shares", man());
        call("tied", 1 + upTo(7));
    }

    private void foretellMore() {
        call("tied", near(15));
        call("least", man(), man(), near(1));
        call("least", upTo(1), 1 + upTo(1), upTo(1));
        int n = upTo(2);
        int m = upTo(2);
        int row = row() & 7;
        call("row", row, dice.nextInt(3), 5);
        for (int i = 0; i < 5; i++) {
            call("set", row, i, i < n ? corner() : cell());
        }
        call("found", man(), row, n, m);
        call("found", man(), row(), near(6), near(6));
    }

    private void images() {
        call(dice.nextBoolean() ? "image" : "restore", near(1));
        call(dice.nextBoolean() ? "image" : "restore", near(1));
        call("count", 4);
        call("count", 5);
        call("count", 1);
        call("count", 3);
    }

    private void askAll() {
        for (int i = 0; i < 5; i++) {
            int cell = cell();
            call("kind", cell);
            call("ask", cell, near(1));
            for (int k = -1; k < 8; k++) {
                call("trace", k);
            }
            call("as", cell, near(5));
            call("whose", cell);
        }
    }

    private void stepsAndMen() {
        for (int i = 0; i < 10; i++) {
            call("takes", corner(), near(3));
            call("man", man(), near(3));
        }
    }
}
