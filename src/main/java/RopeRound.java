/**
 * As much as a rope goes round: a ground of cells, men with ropes, what they lay and what they could lay.
 *
 * Sets of cells and of corners are bits of a long: the cell or corner x, y is bit x + 8 y. A ring is kept as the
 * set of cells in it alone, because its rope runs just along the border of that set.
 */
public final class RopeRound {
    public static final int NONE = -1000000, BAD = -1000001, STATE = -1000002, FULL = -1000003;

    private static final int FINDING = -1000010, TEXT_FAULT = -1000100, LAYING_FAULT = -1000200;
    private static final int NULL = 1, PLACE = 2, KIND = 3, SIZE = 4, STORE = 5;

    private static final int ROWS = 8, MOST_ITEMS = 40, LANES = 3;
    private static final int TAPE_BYTES = 300, FEED_BYTES = 8;
    private static final int MOST_WIDE = 7, MOST_HIGH = 6, MOST_STONES = 8, MOST_MEN = 4, MOST_ROPE = 12;
    private static final int CORNERS = 64, ROPES = MOST_ROPE + 1, WAYS = 4;
    private static final int JUDGED_STEPS = 20, MOST_STEPS = 12, LEAST_STEPS = 8, FOUND_STEPS = 10;
    private static final int TOLD = 6, SHARERS = 3, IMAGES = 2;

    private static final int CELL = 0, LAND = 1, WATER = 2, RINGED = 3, RICH = 4, TAKEN = 5, KINDS = 6;

    private static final long FIRST_COLUMN = 0x0101010101010101L;
    private static final int[] STRIDES = {-8, 1, 8, -1};

    private final Row[] rows = new Row[ROWS];
    private final Reader reader = new Reader();
    private final Ground here = new Ground();
    private final Ground[] images = new Ground[IMAGES];
    private final Trial trial = new Trial();
    private final Best best = new Best();
    private final RingList firsts = new RingList();
    private final RingList seconds = new RingList();
    private final Finder finder = new Finder();
    private final Asker asker = new Asker();
    private int finding;
    private int textFault;

    public RopeRound() {
        for (int i = 0; i < ROWS; i++) {
            rows[i] = new Row();
        }
        for (int i = 0; i < IMAGES; i++) {
            images[i] = new Ground();
        }
    }

    // ---- rows

    public int row(int row, int lane, int n) {
        if (!isRow(row) || lane < 0 || lane >= LANES || n > MOST_ITEMS) {
            return BAD;
        }
        if (n < 0) {
            return findingOf(SIZE);
        }
        rows[row].begin(lane, n);
        return unfound(n);
    }

    public int set(int row, int i, int v) {
        if (!isRow(row)) {
            return BAD;
        }
        Row items = rows[row];
        if (items.isMissing()) {
            return findingOf(NULL);
        }
        if (!items.holds(i, 1)) {
            return findingOf(PLACE);
        }
        return unfound(items.put(i, v));
    }

    public int copy(int a, int i, int b, int j, int n) {
        if (!isRow(a) || !isRow(b)) {
            return BAD;
        }
        Row from = rows[a];
        Row to = rows[b];
        if (from.isMissing() || to.isMissing()) {
            return findingOf(NULL);
        }
        if (from.lane != to.lane) {
            return findingOf(STORE);
        }
        if (!from.holds(i, n) || !to.holds(j, n)) {
            return findingOf(PLACE);
        }
        System.arraycopy(from.items, i, to.items, j, n);
        return unfound(n);
    }

    public int drop(int row) {
        if (!isRow(row)) {
            return BAD;
        }
        Row items = rows[row];
        if (items.isMissing()) {
            return findingOf(NULL);
        }
        int had = items.size;
        items.vanish();
        return unfound(had);
    }

    // ---- grounds, layings

    public int feed(long w, int n) {
        if (n < 1 || n > FEED_BYTES) {
            return BAD;
        }
        if (n > TAPE_BYTES - reader.tape.length) {
            return FULL;
        }
        reader.tape.append(w, n);
        return reader.tape.length;
    }

    public int ground() {
        boolean whole = reader.readAll();
        reader.tape.length = 0;
        if (!whole) {
            textFault = reader.fault;
            return TEXT_FAULT - reader.faultPlace;
        }
        here.become(reader.draft);
        best.forget();
        return here.men;
    }

    public int fault() {
        return textFault;
    }

    public int takes(int corner, int way) {
        if (!here.hasCorner(corner) || way < 0 || way >= WAYS) {
            return BAD;
        }
        return here.leads(corner, way) ? here.ropeTaken(corner, way) : NONE;
    }

    public int judge(int man, int row, int i, int n) {
        if (!canBeLaying(man, row, n)) {
            return BAD;
        }
        return judged(man, rows[row], i, n);
    }

    public int lay(int man, int row, int i, int n) {
        if (!canBeLaying(man, row, n)) {
            return BAD;
        }
        if (here.hasRing(man)) {
            return STATE;
        }
        int answer = judged(man, rows[row], i, n);
        if (answer >= 0) {
            putRing(man, trial.cells);
        }
        return answer;
    }

    public int lift(int man) {
        if (!here.hasMan(man)) {
            return BAD;
        }
        if (!here.hasRing(man)) {
            return STATE;
        }
        int worth = here.worthOf(here.rings[man]);
        putRing(man, 0L);
        return worth;
    }

    public int man(int man, int what) {
        if (!here.hasMan(man) || what < 0 || what > 3) {
            return BAD;
        }
        if (what == 0) {
            return here.pegs[man];
        }
        if (what == 1) {
            return here.ropes[man];
        }
        if (!here.hasRing(man)) {
            return NONE;
        }
        return what == 2 ? here.worthOf(here.rings[man]) : Long.bitCount(here.rings[man]);
    }

    public int whose(int cell) {
        if (!here.hasCell(cell)) {
            return BAD;
        }
        return here.ringMan(bitOfCell(cell));
    }

    // ---- foretold

    public int most(int corner, int l, int k) {
        if (!here.hasCorner(corner) || has(here.stones, corner) || l < 0 || l > MOST_ROPE || k < -2) {
            return BAD;
        }
        best.learn(here, corner);
        int place = best.placeOf(corner, l);
        int steps = best.steps[place];
        if (steps == 0 || k >= steps) {
            return NONE;
        }
        if (k == -2) {
            return best.worths[place];
        }
        return k == -1 ? steps : wayAt(best.ways[place], k);
    }

    public int tied(int set) {
        if (set < 1 || set >= 1 << here.men) {
            return BAD;
        }
        best.learn(here, here.pegs[leaderOf(set)]);
        return tiedWorth(set);
    }

    public int shares(int man) {
        if (!here.hasMan(man) || here.men > SHARERS) {
            return BAD;
        }
        for (int i = 0; i < here.men; i++) {
            best.learn(here, here.pegs[i]);
        }
        return shareOf(man);
    }

    public int least(int a, int b, int what) {
        if (!here.hasMan(a) || !here.hasMan(b) || a == b || here.hasRing(a) || what < 0 || what > 1) {
            return BAD;
        }
        firsts.fill(here, here.pegs[a]);
        seconds.fill(here, here.pegs[b]);
        int leftLeast = NONE;
        int worthMost = NONE;
        for (int i = 0; i < firsts.size; i++) {
            long ring = firsts.rings[i];
            if (here.ropeAround(ring, 0L) <= here.ropes[a]) {
                int left = seconds.mostBeside(here, ring, here.ropes[b]);
                boolean less = leftLeast == NONE || left < leftLeast;
                if (less || left == leftLeast && firsts.worths[i] > worthMost) {
                    leftLeast = left;
                    worthMost = firsts.worths[i];
                }
            }
        }
        return what == 0 ? leftLeast : worthMost;
    }

    public int wet(int man, int p) {
        if (!here.hasMan(man) || p < 0 || p > 100) {
            return BAD;
        }
        int peg = here.pegs[man];
        int rope = here.ropes[man];
        best.learn(here, peg);
        return best.worthOrNothing(peg, rope) - best.worthOrNothing(peg, rope * (100 - p) / 100);
    }

    public int found(int man, int row, int n, int m) {
        if (!here.hasMan(man) || !isRow(row) || n < 0 || n > TOLD || m < 0 || m > TOLD) {
            return BAD;
        }
        Row told = rows[row];
        if (told.isMissing()) {
            return findingOf(NULL);
        }
        if (!told.holds(0, n + m)) {
            return findingOf(PLACE);
        }
        if (!finder.takeTold(here, told, n, m)) {
            return BAD;
        }
        return unfound(finder.countFor(here, man));
    }

    public int image(int k) {
        if (k < 0 || k >= IMAGES) {
            return BAD;
        }
        if (!here.isThere()) {
            return STATE;
        }
        images[k].become(here);
        return 1;
    }

    public int restore(int k) {
        if (k < 0 || k >= IMAGES) {
            return BAD;
        }
        if (!images[k].isThere()) {
            return STATE;
        }
        here.become(images[k]);
        best.forget();
        return 1;
    }

    // ---- asked

    public int kind(int cell) {
        return here.hasCell(cell) ? here.kindOf(bitOfCell(cell)) : BAD;
    }

    public int as(int cell, int kind) {
        if (!here.hasCell(cell) || kind < 0 || kind >= KINDS) {
            return BAD;
        }
        return isAlso(here.kindOf(bitOfCell(cell)), kind) ? unfound(cell) : findingOf(KIND);
    }

    public int ask(int cell, int what) {
        if (!here.hasCell(cell) || what < 0 || what > 1) {
            return BAD;
        }
        asker.begin(here, cell);
        return what == 0 ? asker.sizeAsked() : asker.markAsked();
    }

    public int trace(int i) {
        return i >= 0 && i < asker.noted ? asker.notes[i] : NONE;
    }

    public int count(int what) {
        switch (what) {
            case 0:
                return rowsThere();
            case 1:
                return here.wide;
            case 2:
                return here.high;
            case 3:
                return Long.bitCount(here.stones);
            case 4:
                return here.men;
            case 5:
                return here.ringsThere();
            case 6:
                return reader.tape.length;
            default:
                return BAD;
        }
    }

    public int status() {
        return finding;
    }

    // ---- what the calls share

    private static boolean isRow(int row) {
        return row >= 0 && row < ROWS;
    }

    private int rowsThere() {
        int there = 0;
        for (int i = 0; i < ROWS; i++) {
            if (!rows[i].isMissing()) {
                there++;
            }
        }
        return there;
    }

    private int findingOf(int number) {
        finding = number;
        return FINDING - number;
    }

    private int unfound(int answer) {
        finding = 0;
        return answer;
    }

    private boolean canBeLaying(int man, int row, int n) {
        return here.hasMan(man) && isRow(row) && n >= 0 && n <= JUDGED_STEPS;
    }

    private int judged(int man, Row steps, int i, int n) {
        if (steps.isMissing()) {
            return findingOf(NULL);
        }
        if (!steps.holds(i, n)) {
            return findingOf(PLACE);
        }
        for (int s = 0; s < n; s++) {
            int way = steps.items[i + s];
            if (way < 0 || way >= WAYS) {
                return BAD;
            }
        }
        trial.follow(here, man, steps, i, n);
        if (trial.fault != 0) {
            return unfound(LAYING_FAULT - 100 * trial.fault - trial.step);
        }
        return unfound(here.worthOf(trial.cells));
    }

    private void putRing(int man, long cells) {
        here.rings[man] = cells;
        here.reckonRings();
        best.forget();
    }

    private int leaderOf(int set) {
        int leader = 0;
        for (int man = here.men - 1; man >= 0; man--) {
            if ((set >> man & 1) != 0) {
                leader = man;
            }
        }
        return leader;
    }

    private int ropeOf(int set) {
        int rope = 0;
        for (int man = 0; man < here.men; man++) {
            if ((set >> man & 1) != 0) {
                rope += here.ropes[man];
            }
        }
        return Math.min(rope, MOST_ROPE);
    }

    /** The leader's peg has been learnt; a set of nobody gains nothing. */
    private int tiedWorth(int set) {
        return set == 0 ? 0 : best.worthOrNothing(here.pegs[leaderOf(set)], ropeOf(set));
    }

    /**
     * Each set of men having enough means no more than a floor and a ceiling for each man, since with three men
     * at most what two have together is all but what the third one has.
     */
    private int shareOf(int man) {
        int all = tiedWorth((1 << here.men) - 1);
        int floors = 0;
        int ceilings = 0;
        for (int i = 0; i < SHARERS; i++) {
            int low = floorOf(i);
            int high = ceilingOf(i, all);
            if (low > high) {
                return NONE;
            }
            floors += low;
            ceilings += high;
        }
        if (floors > all || ceilings < all) {
            return NONE;
        }
        int first = Math.max(floorOf(0), all - ceilingOf(1, all) - ceilingOf(2, all));
        int second = Math.max(floorOf(1), all - first - ceilingOf(2, all));
        if (man == 0) {
            return first;
        }
        return man == 1 ? second : all - first - second;
    }

    private int floorOf(int man) {
        return man < here.men ? tiedWorth(1 << man) : 0;
    }

    private int ceilingOf(int man, int all) {
        int others = (1 << here.men) - 1 & ~(1 << man);
        return man < here.men ? all - tiedWorth(others) : 0;
    }

    private static boolean has(long bits, int bit) {
        return (bits >>> bit & 1L) != 0;
    }

    private static int bitOfCell(int cell) {
        return cell % MOST_WIDE + 8 * (cell / MOST_WIDE);
    }

    private static int wayAt(long ways, int k) {
        return (int) (ways >>> 2 * k & 3L);
    }

    /** The steps to the east, by the corner they begin at, along which the border of a set of cells runs. */
    private static long bordersEast(long cells) {
        return cells ^ cells << 8;
    }

    /** The same for the steps to the south. */
    private static long bordersSouth(long cells) {
        return cells ^ cells << 1;
    }

    /**
     * The cells north of a step, none if it goes north or south. Those that are met an odd number of times along
     * a rope that is shut are the cells in it.
     */
    private static long cellsPassed(int corner, int way) {
        if (way == 0 || way == 2) {
            return 0L;
        }
        int west = way == 1 ? corner : corner - 1;
        return FIRST_COLUMN << (west & 7) & (1L << (west & 56)) - 1;
    }

    private static boolean isAlso(int told, int kind) {
        int now = told;
        for (int i = 0; i < KINDS && now != CELL; i++) {
            if (now == kind) {
                return true;
            }
            now = nextKind(now);
        }
        return kind == CELL;
    }

    private static int nextKind(int kind) {
        switch (kind) {
            case TAKEN:
                return RINGED;
            case RINGED:
            case RICH:
                return LAND;
            default:
                return CELL;
        }
    }

    /** A row of items, which is missing while it has no lane. */
    private static final class Row {
        final int[] items = new int[MOST_ITEMS];
        int lane = -1;
        int size;

        boolean isMissing() {
            return lane < 0;
        }

        void begin(int newLane, int n) {
            lane = newLane;
            size = n;
            for (int i = 0; i < MOST_ITEMS; i++) {
                items[i] = 0;
            }
        }

        void vanish() {
            lane = -1;
            size = 0;
        }

        boolean holds(int from, int n) {
            return from >= 0 && n >= 0 && from <= size - n;
        }

        int put(int i, int v) {
            int cut = v;
            if (lane == 0) {
                cut = (byte) v;
            } else if (lane == 1) {
                cut = (short) v;
            }
            items[i] = cut;
            return cut;
        }
    }

    /** The bytes that were fed, and the token that stands at the place reached in them. */
    private static final class Tape {
        static final int END = 0, NAME = 1, NUMBER = 2, SIGN = 3, NOTHING = 4;
        static final int MOST_FIGURES = 3;

        final byte[] bytes = new byte[TAPE_BYTES];
        int length;
        int sort;
        int start;
        int end;

        void append(long w, int n) {
            for (int i = n - 1; i >= 0 && length < TAPE_BYTES; i--) {
                bytes[length] = (byte) (w >> 8 * i);
                length++;
            }
        }

        void rewind() {
            end = 0;
            advance();
        }

        void advance() {
            start = end;
            while (start < length && (bytes[start] == ' ' || bytes[start] == '\n')) {
                start++;
            }
            if (start >= length) {
                sort = END;
                end = start;
                return;
            }
            sort = sortOf(bytes[start]);
            end = start + 1;
            boolean runs = sort == NAME || sort == NUMBER;
            while (runs && end < length && sortOf(bytes[end]) == sort) {
                end++;
            }
            if (sort == NUMBER && end - start > MOST_FIGURES) {
                sort = NOTHING;
            }
        }

        private static int sortOf(byte sign) {
            if (sign >= 'a' && sign <= 'z') {
                return NAME;
            }
            if (sign >= '0' && sign <= '9') {
                return NUMBER;
            }
            return sign == ';' ? SIGN : NOTHING;
        }

        boolean isWord(String word) {
            if (sort != NAME || end - start != word.length()) {
                return false;
            }
            for (int i = 0; i < word.length(); i++) {
                if (bytes[start + i] != word.charAt(i)) {
                    return false;
                }
            }
            return true;
        }

        int number() {
            int n = 0;
            for (int i = start; i < end; i++) {
                n = 10 * n + bytes[i] - '0';
            }
            return n;
        }
    }

    /** Reads the tape as a ground, into a draft so that a text with a fault leaves the ground as it is. */
    private static final class Reader {
        static final int MISPLACED = 1, WRONG_NUMBER = 2, TOO_MANY = 3;

        final Tape tape = new Tape();
        final Ground draft = new Ground();
        int fault;
        int faultPlace;

        boolean readAll() {
            draft.clear();
            tape.rewind();
            if (!readRows() || !readStones() || !readMen()) {
                return false;
            }
            draft.reckonWays();
            draft.reckonRings();
            return true;
        }

        private boolean wrong(int number) {
            fault = number;
            faultPlace = tape.start;
            return false;
        }

        private boolean readRows() {
            boolean more = true;
            for (int i = 0; more && i <= MOST_HIGH; i++) {
                if (!readWord("row", i, MOST_HIGH) || !readCells() || !readSign()) {
                    return false;
                }
                more = tape.isWord("row");
            }
            return true;
        }

        private boolean readStones() {
            for (int i = 0; i <= MOST_STONES && tape.isWord("stone"); i++) {
                if (!readWord("stone", i, MOST_STONES) || !readStone() || !readSign()) {
                    return false;
                }
            }
            return true;
        }

        private boolean readMen() {
            boolean more = true;
            for (int i = 0; more && i <= MOST_MEN; i++) {
                if (!readWord("man", i, MOST_MEN) || !readMan() || !readSign()) {
                    return false;
                }
                more = tape.isWord("man");
            }
            return tape.sort == Tape.END || wrong(MISPLACED);
        }

        private boolean readWord(String word, int sofar, int room) {
            if (!tape.isWord(word)) {
                return wrong(MISPLACED);
            }
            if (sofar >= room) {
                return wrong(TOO_MANY);
            }
            tape.advance();
            return true;
        }

        private boolean readSign() {
            if (tape.sort != Tape.SIGN) {
                return wrong(MISPLACED);
            }
            tape.advance();
            return true;
        }

        private boolean readCells() {
            int n = tape.end - tape.start;
            if (tape.sort != Tape.NAME || n > MOST_WIDE || draft.high > 0 && n != draft.wide) {
                return wrong(MISPLACED);
            }
            for (int i = tape.start; i < tape.end; i++) {
                byte letter = tape.bytes[i];
                if (letter > 'j' && letter != 'w') {
                    return wrong(MISPLACED);
                }
            }
            for (int x = 0; x < n; x++) {
                draft.setCell(x + 8 * draft.high, tape.bytes[tape.start + x]);
            }
            draft.wide = n;
            draft.high++;
            tape.advance();
            return true;
        }

        /** The number that stands here, at most that much; below 0: there is none, and the fault is kept. */
        private int readNumber(int most) {
            boolean good = tape.sort == Tape.NUMBER || wrong(MISPLACED);
            good = good && (tape.number() <= most || wrong(WRONG_NUMBER));
            if (!good) {
                return -1;
            }
            int number = tape.number();
            tape.advance();
            return number;
        }

        private boolean readStone() {
            int x = readNumber(draft.wide);
            if (x < 0) {
                return false;
            }
            int y = readNumber(draft.high);
            if (y < 0) {
                return false;
            }
            draft.stones |= 1L << x + 8 * y;
            return true;
        }

        private boolean readMan() {
            int x = readNumber(draft.wide);
            if (x < 0) {
                return false;
            }
            if (tape.sort == Tape.NUMBER && isStone(x, tape.number())) {
                return wrong(WRONG_NUMBER);
            }
            int y = readNumber(draft.high);
            if (y < 0) {
                return false;
            }
            int rope = readNumber(MOST_ROPE);
            if (rope < 0 || draft.men >= MOST_MEN) {
                return false;
            }
            draft.pegs[draft.men] = x + 8 * y;
            draft.ropes[draft.men] = rope;
            draft.men++;
            return true;
        }

        private boolean isStone(int x, int y) {
            return y <= draft.high && has(draft.stones, x + 8 * y);
        }
    }

    /** A ground with its men and their rings; there is none while there are no men. */
    private static final class Ground {
        static final int WORTH_BITS = 4, RICH_WORTH = 7;

        int wide;
        int high;
        int men;
        long water;
        long stones;
        /** Bit by bit of the worths, the cells that have it: so a set's worth is counted, not walked through. */
        final long[] worthBits = new long[WORTH_BITS];
        final int[] pegs = new int[MOST_MEN];
        final int[] ropes = new int[MOST_MEN];
        final long[] rings = new long[MOST_MEN];
        /** By way, the corners from which a step stays on the ground and comes to no stone. */
        final long[] ways = new long[WAYS];
        long ringed;
        long freeEast;
        long freeSouth;

        void clear() {
            wide = 0;
            high = 0;
            men = 0;
            water = 0L;
            stones = 0L;
            for (int i = 0; i < WORTH_BITS; i++) {
                worthBits[i] = 0L;
            }
            for (int i = 0; i < MOST_MEN; i++) {
                rings[i] = 0L;
            }
        }

        void become(Ground other) {
            wide = other.wide;
            high = other.high;
            men = other.men;
            water = other.water;
            stones = other.stones;
            System.arraycopy(other.worthBits, 0, worthBits, 0, WORTH_BITS);
            System.arraycopy(other.pegs, 0, pegs, 0, MOST_MEN);
            System.arraycopy(other.ropes, 0, ropes, 0, MOST_MEN);
            System.arraycopy(other.rings, 0, rings, 0, MOST_MEN);
            System.arraycopy(other.ways, 0, ways, 0, WAYS);
            ringed = other.ringed;
            freeEast = other.freeEast;
            freeSouth = other.freeSouth;
        }

        boolean isThere() {
            return men > 0;
        }

        boolean hasMan(int man) {
            return man >= 0 && man < men;
        }

        boolean hasRing(int man) {
            return rings[man] != 0L;
        }

        boolean hasCorner(int corner) {
            return isThere() && corner >= 0 && (corner & 7) <= wide && corner >> 3 <= high;
        }

        boolean hasCell(int cell) {
            return cell >= 0 && cell % MOST_WIDE < wide && cell / MOST_WIDE < high;
        }

        void setCell(int bit, int letter) {
            if (letter == 'w') {
                water |= 1L << bit;
                return;
            }
            for (int i = 0; i < WORTH_BITS; i++) {
                worthBits[i] |= (long) (letter - 'a' >> i & 1) << bit;
            }
        }

        void reckonWays() {
            long open = 0L;
            for (int corner = 0; corner < CORNERS; corner++) {
                if (hasCorner(corner) && !has(stones, corner)) {
                    open |= 1L << corner;
                }
            }
            ways[0] = open << 8;
            ways[1] = open >>> 1 & ~(FIRST_COLUMN << 7);
            ways[2] = open >>> 8;
            ways[3] = open << 1 & ~FIRST_COLUMN;
        }

        void reckonRings() {
            ringed = 0L;
            freeEast = bordersEast(water);
            freeSouth = bordersSouth(water);
            for (int man = 0; man < men; man++) {
                ringed |= rings[man];
                freeEast |= bordersEast(rings[man]);
                freeSouth |= bordersSouth(rings[man]);
            }
        }

        boolean leads(int corner, int way) {
            return has(ways[way], corner);
        }

        int ropeTaken(int corner, int way) {
            boolean along = way == 1 || way == 3;
            int first = way == 0 || way == 3 ? corner + STRIDES[way] : corner;
            return has(along ? freeEast : freeSouth, first) ? 0 : 1;
        }

        /** What a ring around cells takes, while one more ring lies around others (0: none does). */
        int ropeAround(long cells, long others) {
            long east = bordersEast(cells) & ~freeEast & ~bordersEast(others);
            long south = bordersSouth(cells) & ~freeSouth & ~bordersSouth(others);
            return Long.bitCount(east) + Long.bitCount(south);
        }

        int worthOf(long cells) {
            int worth = 0;
            for (int i = 0; i < WORTH_BITS; i++) {
                worth += Long.bitCount(cells & worthBits[i]) << i;
            }
            return worth;
        }

        int ringMan(int bit) {
            for (int man = 0; man < men; man++) {
                if (has(rings[man], bit)) {
                    return man;
                }
            }
            return NONE;
        }

        int ringsThere() {
            int there = 0;
            for (int man = 0; man < men; man++) {
                if (hasRing(man)) {
                    there++;
                }
            }
            return there;
        }

        int kindOf(int bit) {
            if (has(water, bit)) {
                return WATER;
            }
            boolean rich = worthOf(1L << bit) >= RICH_WORTH;
            if (has(ringed, bit)) {
                return rich ? TAKEN : RINGED;
            }
            return rich ? RICH : LAND;
        }
    }

    /** A laying followed step by step to its first fault, 0 if it has none. */
    private static final class Trial {
        static final int LEAVES = 1, CROSSES = 2, TOO_LONG = 3, OPEN = 4, TOO_FEW = 5, ON_RING = 6;
        static final int FEWEST_STEPS = 4;

        long cells;
        int fault;
        int step;

        void follow(Ground ground, int man, Row steps, int from, int n) {
            int peg = ground.pegs[man];
            int at = peg;
            int rope = ground.ropes[man];
            long been = 1L << peg;
            cells = 0L;
            fault = 0;
            step = n;
            for (int s = 0; s < n; s++) {
                int way = steps.items[from + s];
                if (!ground.leads(at, way)) {
                    stop(LEAVES, s);
                    return;
                }
                int to = at + STRIDES[way];
                boolean shuts = to == peg && s == n - 1;
                if (has(been, to) && !shuts) {
                    stop(CROSSES, s);
                    return;
                }
                rope -= ground.ropeTaken(at, way);
                if (rope < 0) {
                    stop(TOO_LONG, s);
                    return;
                }
                cells ^= cellsPassed(at, way);
                been |= 1L << to;
                at = to;
            }
            judgeWhole(ground, at == peg, n);
        }

        private void stop(int number, int at) {
            fault = number;
            step = at;
        }

        private void judgeWhole(Ground ground, boolean shut, int n) {
            if (!shut) {
                fault = OPEN;
            } else if (n < FEWEST_STEPS) {
                fault = TOO_FEW;
            } else if ((cells & ground.ringed) != 0L) {
                fault = ON_RING;
            }
        }
    }

    /** Goes through all ropes that shut at a corner, in the order of their steps, and hands over each ring. */
    private abstract static class Walk {
        Ground ground;
        private int home;
        private int limit;

        void walkAll(Ground there, int corner, int mostSteps) {
            ground = there;
            home = corner;
            limit = mostSteps;
            goOn(corner, 0, 1L << corner, 0L, 0L);
        }

        private void goOn(int at, int steps, long been, long cells, long ways) {
            if (steps >= limit) {
                return;
            }
            for (int way = 0; way < WAYS; way++) {
                if (!ground.leads(at, way)) {
                    continue;
                }
                int to = at + STRIDES[way];
                long inside = cells ^ cellsPassed(at, way);
                long gone = ways | (long) way << 2 * steps;
                if (to == home) {
                    if (steps + 1 >= Trial.FEWEST_STEPS && (inside & ground.ringed) == 0L) {
                        meet(inside, been, gone, steps + 1);
                    }
                } else if (!has(been, to) && stepsHome(to) < limit - steps) {
                    goOn(to, steps + 1, been | 1L << to, inside, gone);
                }
            }
        }

        private int stepsHome(int corner) {
            return Math.abs((corner & 7) - (home & 7)) + Math.abs((corner >> 3) - (home >> 3));
        }

        abstract void meet(long cells, long been, long ways, int steps);
    }

    /**
     * The ring of most worth from a corner for every length of rope at once, kept until something changes:
     * the calls ask for the same one step by step, and set by set.
     */
    private static final class Best extends Walk {
        final int[] worths = new int[CORNERS * ROPES];
        final int[] steps = new int[CORNERS * ROPES];
        final long[] ways = new long[CORNERS * ROPES];
        private long known;
        private int base;

        void forget() {
            known = 0L;
        }

        void learn(Ground there, int corner) {
            if (has(known, corner)) {
                return;
            }
            base = corner * ROPES;
            for (int i = 0; i < ROPES; i++) {
                worths[base + i] = NONE;
                steps[base + i] = 0;
            }
            walkAll(there, corner, MOST_STEPS);
            known |= 1L << corner;
        }

        /** Where the ring from a corner that was learnt is kept; there is none if it has no steps. */
        int placeOf(int corner, int rope) {
            return corner * ROPES + rope;
        }

        int worthOrNothing(int corner, int rope) {
            int place = placeOf(corner, rope);
            return steps[place] == 0 ? 0 : worths[place];
        }

        void meet(long cells, long been, long gone, int n) {
            int worth = ground.worthOf(cells);
            int rope = ground.ropeAround(cells, 0L);
            for (int i = rope; i < ROPES && worths[base + i] < worth; i++) {
                worths[base + i] = worth;
                steps[base + i] = n;
                ways[base + i] = gone;
            }
        }
    }

    /** All rings from a peg by eight steps at most, whatever rope they take. */
    private static final class RingList extends Walk {
        /** On ground without an end 4, 12 and 56 rings of 4, 6 and 8 steps go through a corner. */
        static final int MOST_RINGS = 72;

        final long[] rings = new long[MOST_RINGS];
        final int[] worths = new int[MOST_RINGS];
        int size;

        void fill(Ground there, int corner) {
            size = 0;
            walkAll(there, corner, LEAST_STEPS);
        }

        void meet(long cells, long been, long gone, int n) {
            int firstWay = wayAt(gone, 0);
            int firstWayBack = wayAt(gone, n - 1) + 2 & 3;
            // Who goes round the other way has the same cells: one of the two is enough.
            if (firstWay < firstWayBack && size < MOST_RINGS) {
                rings[size] = cells;
                worths[size] = ground.worthOf(cells);
                size++;
            }
        }

        int mostBeside(Ground there, long ring, int rope) {
            int most = 0;
            for (int i = 0; i < size; i++) {
                boolean apart = (rings[i] & ring) == 0L;
                if (apart && worths[i] > most && there.ropeAround(rings[i], ring) <= rope) {
                    most = worths[i];
                }
            }
            return most;
        }
    }

    /** Counts the layings that come to told corners and have told cells in them. */
    private static final class Finder extends Walk {
        private long toldCorners;
        private long toldCells;
        private int rope;
        private int fitting;

        /** False: an item is no corner, or no cell. The row has all items. */
        boolean takeTold(Ground there, Row told, int n, int m) {
            toldCorners = 0L;
            toldCells = 0L;
            for (int i = 0; i < n + m; i++) {
                int item = told.items[i];
                if (i < n ? !there.hasCorner(item) : !there.hasCell(item)) {
                    return false;
                }
                if (i < n) {
                    toldCorners |= 1L << item;
                } else {
                    toldCells |= 1L << bitOfCell(item);
                }
            }
            return true;
        }

        int countFor(Ground there, int man) {
            rope = there.ropes[man];
            fitting = 0;
            walkAll(there, there.pegs[man], FOUND_STEPS);
            return fitting;
        }

        void meet(long cells, long been, long gone, int n) {
            boolean fits = (toldCorners & ~been) == 0L && (toldCells & ~cells) == 0L;
            if (fits && ground.ropeAround(cells, 0L) <= rope) {
                fitting++;
            }
        }
    }

    /** Asks of one cell, by bodies of which each notes its number as it begins. */
    private static final class Asker {
        static final int MOST_NOTES = 16;

        final int[] notes = new int[MOST_NOTES];
        int noted;
        private int cell;
        private int worth;
        private int kind;
        private int ringMan;

        void begin(Ground there, int asked) {
            int bit = bitOfCell(asked);
            noted = 0;
            cell = asked;
            worth = there.worthOf(1L << bit);
            kind = there.kindOf(bit);
            ringMan = there.ringMan(bit);
        }

        private void note(int body) {
            if (noted < MOST_NOTES) {
                notes[noted] = body;
                noted++;
            }
        }

        int sizeAsked() {
            switch (kind) {
                case TAKEN:
                    note(14);
                    return -sizeOfRinged();
                case RICH:
                    note(13);
                    return sizeOfLand() + 1000;
                case RINGED:
                    return sizeOfRinged();
                case LAND:
                    return sizeOfLand();
                default:
                    return sizeLent();
            }
        }

        private int sizeLent() {
            note(10);
            return worth;
        }

        private int sizeOfLand() {
            note(11);
            int lent = sizeLent();
            return lent + markAsked();
        }

        private int sizeOfRinged() {
            note(12);
            return 2 * sizeOfLand();
        }

        int markAsked() {
            switch (kind) {
                case TAKEN:
                case RINGED:
                    note(22);
                    return markLent() + 100 * ringMan;
                case RICH:
                    note(23);
                    return -markLent();
                case WATER:
                    note(21);
                    int lent = markLent();
                    // The size of water is always the lent one: asked by its kind, the two asks would call one another.
                    return lent - sizeLent() - 500;
                default:
                    return markLent();
            }
        }

        private int markLent() {
            note(20);
            return cell;
        }
    }
}
