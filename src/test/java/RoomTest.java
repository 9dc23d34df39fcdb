import java.lang.management.ManagementFactory;

/** All calls of a run live in one room: a new object is small, and no call makes anything. */
public final class RoomTest {
    private static final int MOST_BYTES_OF_AN_OBJECT = 60_000;
    private static final int CALLS = 512;
    private static final int MOST_BYTES_OF_CALLS = 20_000;

    private RoomTest() {
    }

    private static long made() {
        return ((com.sun.management.ThreadMXBean) ManagementFactory.getThreadMXBean()).getCurrentThreadAllocatedBytes();
    }

    public static void main(String[] args) {
        play(new RopeRound());
        long ahead = made();
        RopeRound x = new RopeRound();
        long behind = made();
        Due.holds("a new object is small: " + (behind - ahead), behind - ahead <= MOST_BYTES_OF_AN_OBJECT);
        ahead = made();
        int sum = 0;
        for (int i = 0; i < CALLS / 30; i++) {
            sum += play(x);
        }
        behind = made();
        Due.holds("calls make next to nothing: " + (behind - ahead), behind - ahead <= MOST_BYTES_OF_CALLS);
        Due.holds("they answered", sum != 0);
        Due.end();
    }

    /** The dearest calls, some thirty of them, on the largest ground. */
    private static int play(RopeRound x) {
        for (int i = 0; i < 6; i++) {
            x.feed(0x726f77206a6a6a6aL, 8);
            x.feed(0x6a6a6a3bL, 4);
        }
        x.feed(0x6d616e2033203320L, 8);
        x.feed(0x31323bL, 3);
        x.feed(0x6d616e2034203320L, 8);
        x.feed(0x31323bL, 3);
        int sum = x.ground();
        x.row(0, 0, 4);
        for (int i = 0; i < 4; i++) {
            x.set(0, i, (i + 1) % 4);
        }
        sum += x.most(27, 12, -2) + x.tied(3) + x.shares(1) + x.least(0, 1, 0) + x.wet(1, 10) + x.found(0, 0, 1, 0);
        return sum + x.lay(0, 0, 0, 4) + x.image(0) + x.lift(0) + x.restore(0) + x.ask(0, 0);
    }
}
