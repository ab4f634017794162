import java.util.Arrays;

/**
 * Worlds of cells on a board of 16 by 16 that is closed in itself, and rings of cells.
 *
 * <p>Every public method is the promise of the same name in shared/DOC.md, whose terms (BOARD, RULE,
 * PATTERN, CANON and so on) are used here in the same sense.
 */
public final class Gliderwright {
    public static final int NONE = -1;
    public static final int EMPTY = 0, REST = 1, TURNER = 2, TRAVELLER = 3, UNKNOWN = 4;

    private static final int SIDE = 16;
    private static final int LAST = SIDE - 1;
    private static final int HALF = SIDE / 2;
    private static final int CELLS = SIDE * SIDE;
    private static final int FULL = (1 << SIDE) - 1;

    private static final int MOST_LETTERS = 8;
    private static final int MOST_ENTRIES = 20;
    private static final int MOST_MARKS = 8;
    private static final int MOST_TICKS = 200;
    private static final int MOST_NATURE_TICKS = 64;
    private static final int MOST_RING_TICKS = 1000;
    private static final int MOST_NEIGHBOURS = 8;
    private static final int ALL_COUNTS = (1 << (MOST_NEIGHBOURS + 1)) - 1;

    /**
     * What a BLOCK becomes: 1 is its upper left CELL, 2 its upper right, 4 its lower left, 8 its
     * lower right. The table is its own inverse, so that going back needs no other one.
     */
    private static final int[] BLOCK_BECOMES = {0, 8, 4, 3, 2, 5, 9, 7, 1, 6, 10, 11, 12, 13, 14, 15};

    private static final NamedRule[] NAMED_RULES = NamedRule.values();
    private static final Pattern[] PATTERNS = Pattern.values();

    private final Board board = new Board();
    private final Board later = new Board();
    private final Board spare = new Board();
    private final StringBuilder typed = new StringBuilder();
    private final Canons canons = new Canons();
    private final Catalog catalog = new Catalog();
    private final Parts parts = new Parts();
    private final Marks marks = new Marks();
    private final Rings rings = new Rings();
    private int births;
    private int stays;
    private int phase;

    public Gliderwright() {
        births = NamedRule.LIFE.births;
        stays = NamedRule.LIFE.stays;
        phase = 0;
    }

    // ---- words, RULES, PATTERNS

    public int type(char letter) throws IllegalArgumentException, IllegalStateException {
        if (letter < 'a' || letter > 'z') {
            throw new IllegalArgumentException("no letter from a to z");
        }
        if (typed.length() >= MOST_LETTERS) {
            throw new IllegalStateException("8 letters are typed");
        }
        typed.append(letter);
        return typed.length();
    }

    public boolean rule() {
        NamedRule named = ruleOf(takeWord());
        if (named == null) {
            return false;
        }
        births = named.births;
        stays = named.stays;
        return true;
    }

    public void table(int births, int stays) throws IllegalArgumentException {
        if (!isWithin(births, 0, ALL_COUNTS) || !isWithin(stays, 0, ALL_COUNTS)) {
            throw new IllegalArgumentException("births or stays is out of range");
        }
        this.births = births;
        this.stays = stays;
    }

    public int place(int row, int column, int turns) throws IndexOutOfBoundsException, IllegalArgumentException {
        if (!isWithin(row, 0, LAST) || !isWithin(column, 0, LAST)) {
            throw new IndexOutOfBoundsException("no such row or column");
        }
        if (!isWithin(turns, 0, 3)) {
            throw new IllegalArgumentException("turns is out of range");
        }
        Pattern pattern = patternOf(takeWord());
        return pattern == null ? NONE : putPattern(pattern.cells, row, column, turns);
    }

    public int set(int row, int bits) throws IndexOutOfBoundsException, IllegalArgumentException {
        if (!isWithin(row, 0, LAST)) {
            throw new IndexOutOfBoundsException("no such row");
        }
        if (!isWithin(bits, 0, FULL)) {
            throw new IllegalArgumentException("bits is out of range");
        }
        int before = board.bits(row);
        board.put(row, bits);
        return before;
    }

    public int row(int row) throws IndexOutOfBoundsException {
        if (!isWithin(row, 0, LAST)) {
            throw new IndexOutOfBoundsException("no such row");
        }
        return board.bits(row);
    }

    // ---- TICKS

    public int tick(int ticks) throws IllegalArgumentException {
        if (!isWithin(ticks, 1, MOST_TICKS)) {
            throw new IllegalArgumentException("ticks is out of range");
        }
        run(board, ticks);
        return board.alive();
    }

    public int would(int ticks) throws IllegalArgumentException {
        if (!isWithin(ticks, 0, MOST_TICKS)) {
            throw new IllegalArgumentException("ticks is out of range");
        }
        later.copy(board);
        run(later, ticks);
        return later.alive();
    }

    public int nature(int ticks, int what) throws IllegalArgumentException {
        if (!isWithin(ticks, 1, MOST_NATURE_TICKS) || !isWithin(what, 0, 3)) {
            throw new IllegalArgumentException("ticks or what is out of range");
        }
        if (board.alive() == 0) {
            return what == 0 ? EMPTY : NONE;
        }
        int period = findPeriod(ticks);
        if (period == NONE) {
            return what == 0 ? UNKNOWN : NONE;
        }
        int shift = later.shiftFrom(board);
        switch (what) {
            case 0:
                return kindOf(period, shift);
            case 1:
                return period;
            case 2:
                return shift / SIDE;
            default:
                return shift % SIDE;
        }
    }

    // ---- CANON, CATALOG, OBJECTS

    public int canon(int row) throws IndexOutOfBoundsException {
        if (!isWithin(row, 0, LAST)) {
            throw new IndexOutOfBoundsException("no such row");
        }
        return canons.leastOf(board).bits(row);
    }

    public int record() throws IllegalStateException {
        Board canon = canons.leastOf(board);
        int entry = catalog.find(canon);
        if (entry == NONE) {
            if (catalog.isFull()) {
                throw new IllegalStateException("no such entry, and 20 entries");
            }
            entry = catalog.add(canon);
        }
        catalog.count(entry);
        return entry;
    }

    public int recorded(int entry) throws IndexOutOfBoundsException {
        int times = catalog.timesOf(entry);
        if (times == NONE) {
            throw new IndexOutOfBoundsException("no such entry");
        }
        return times;
    }

    public int known() {
        return catalog.find(canons.leastOf(board));
    }

    public int objects() {
        return parts.separate(board, CELLS);
    }

    public int object(int object, boolean isLowest) throws IndexOutOfBoundsException {
        if (!isWithin(object, 0, CELLS - 1) || parts.separate(board, object + 1) <= object) {
            throw new IndexOutOfBoundsException("no such object");
        }
        return isLowest ? parts.lowestOfLast() : parts.sizeOfLast();
    }

    // ---- SOUPS, BLOCKS, MARKS

    public int soup(int seed, int density, int symmetry) throws IllegalArgumentException {
        if (!isWithin(seed, 0, 65535) || !isWithin(density, 0, 100) || !isWithin(symmetry, 0, 2)) {
            throw new IllegalArgumentException("seed, density or symmetry is out of range");
        }
        int drawnRows = symmetry == 2 ? HALF : SIDE;
        int drawnColumns = symmetry == 0 ? SIDE : HALF;
        int drawn = seed;
        for (int row = 0; row < drawnRows; row++) {
            int bits = 0;
            for (int column = 0; column < drawnColumns; column++) {
                drawn = (1103 * drawn + 12345) & 65535;
                if (drawn % 100 < density) {
                    bits |= 1 << column;
                }
            }
            putSoupRow(row, bits, symmetry);
        }
        return board.alive();
    }

    public int blocks(int steps, boolean isForward) throws IllegalArgumentException {
        if (!isWithin(steps, 1, MOST_TICKS)) {
            throw new IllegalArgumentException("steps is out of range");
        }
        for (int step = 0; step < steps; step++) {
            int worked = isForward ? phase : 1 - phase;
            board.changeBlocks(worked);
            phase = 1 - phase;
        }
        return phase;
    }

    public int mark() throws IllegalStateException {
        if (marks.isFull()) {
            throw new IllegalStateException("there are 8 marks");
        }
        return marks.push(board, phase);
    }

    public int undo() throws IllegalStateException {
        if (marks.isEmpty()) {
            throw new IllegalStateException("there is no mark");
        }
        phase = marks.pop(board);
        return marks.size();
    }

    // ---- rings

    public int ring(int number, int many, int ring, int ticks) throws IllegalArgumentException {
        if (!isRing(number, many, ring) || !isWithin(ticks, 0, MOST_RING_TICKS)) {
            throw new IllegalArgumentException("number, many, ring or ticks is out of range");
        }
        int now = ring;
        for (int tick = 0; tick < ticks; tick++) {
            now = rings.becomes(number, many, now);
        }
        return now;
    }

    public int parents(int number, int many, int ring) throws IllegalArgumentException {
        if (!isRing(number, many, ring)) {
            throw new IllegalArgumentException("number, many or ring is out of range");
        }
        return rings.countAll(number, many, ring);
    }

    public int parentsAnew(int number, int many, int ring) throws IllegalArgumentException {
        if (!isRing(number, many, ring)) {
            throw new IllegalArgumentException("number, many or ring is out of range");
        }
        return rings.countByCells(number, many, ring);
    }

    public int parent(int number, int many, int ring) throws IllegalArgumentException {
        if (!isRing(number, many, ring)) {
            throw new IllegalArgumentException("number, many or ring is out of range");
        }
        return rings.leastParent(number, many, ring);
    }

    // ---- what the methods above share

    private static boolean isWithin(int value, int least, int most) {
        return value >= least && value <= most;
    }

    /** The places whose bit is as the lowest one of the wanted; the caller cuts off what lies above its own. */
    private static int digit(int bits, int wanted) {
        return (wanted & 1) == 1 ? bits : ~bits;
    }

    private static boolean isRing(int number, int many, int ring) {
        return isWithin(number, 0, 255)
                && isWithin(many, Rings.LEAST_CELLS, Rings.MOST_CELLS)
                && isWithin(ring, 0, Rings.full(many));
    }

    private String takeWord() {
        String word = typed.toString();
        typed.setLength(0);
        return word;
    }

    private static NamedRule ruleOf(String word) {
        for (NamedRule named : NAMED_RULES) {
            if (named.word.equals(word)) {
                return named;
            }
        }
        return null;
    }

    private static Pattern patternOf(String word) {
        for (Pattern pattern : PATTERNS) {
            if (pattern.word.equals(word)) {
                return pattern;
            }
        }
        return null;
    }

    private int putPattern(String cells, int row, int column, int turns) {
        int born = 0;
        for (int at = 0; at + 1 < cells.length(); at += 3) {
            int down = cells.charAt(at) - '0';
            int right = cells.charAt(at + 1) - '0';
            for (int turn = 0; turn < turns; turn++) {
                int below = down;
                down = right;
                right = -below;
            }
            if (board.enliven(row + down, column + right)) {
                born++;
            }
        }
        return born;
    }

    private void putSoupRow(int row, int bits, int symmetry) {
        int whole = symmetry == 0 ? bits : bits | Board.mirrored(bits);
        board.put(row, whole);
        if (symmetry == 2) {
            board.put(LAST - row, whole);
        }
    }

    private void run(Board world, int ticks) {
        for (int tick = 0; tick < ticks; tick++) {
            spare.tickFrom(world, births, stays);
            world.copy(spare);
        }
    }

    /** Leaves in later what would be behind the PERIOD, if there is one. */
    private int findPeriod(int ticks) {
        later.copy(board);
        for (int period = 1; period <= ticks; period++) {
            run(later, 1);
            if (later.shiftFrom(board) != NONE) {
                return period;
            }
        }
        return NONE;
    }

    private static int kindOf(int period, int shift) {
        if (shift != 0) {
            return TRAVELLER;
        }
        return period == 1 ? REST : TURNER;
    }

    private enum NamedRule {
        LIFE("life", 1 << 3, 1 << 2 | 1 << 3),
        SEEDS("seeds", 1 << 2, 0),
        HIGH("high", 1 << 3 | 1 << 6, 1 << 2 | 1 << 3),
        MAZE("maze", 1 << 3, 1 << 1 | 1 << 2 | 1 << 3 | 1 << 4 | 1 << 5),
        DAY("day", 1 << 3 | 1 << 6 | 1 << 7 | 1 << 8, 1 << 3 | 1 << 4 | 1 << 6 | 1 << 7 | 1 << 8);

        private final String word;
        private final int births;
        private final int stays;

        NamedRule(String word, int births, int stays) {
            this.word = word;
            this.births = births;
            this.stays = stays;
        }
    }

    private enum Pattern {
        BLOCK("block", "00 01 10 11"),
        BLINKER("blinker", "00 01 02"),
        GLIDER("glider", "01 12 20 21 22"),
        BEACON("beacon", "00 01 10 23 32 33"),
        SHIP("ship", "01 04 10 20 24 30 31 32 33");

        private final String word;
        /** Each CELL by the digit of its row and that of its column. */
        private final String cells;

        Pattern(String word, String cells) {
            this.word = word;
            this.cells = cells;
        }
    }

    /** Sixteen rows, each the sum of 2 to the power of each column that is ALIVE; numbers go round. */
    private static final class Board {
        private final int[] rows = new int[SIDE];

        int bits(int row) {
            return rows[row & LAST];
        }

        void put(int row, int bits) {
            rows[row & LAST] = bits & FULL;
        }

        boolean enliven(int row, int column) {
            int before = bits(row);
            int after = before | (1 << (column & LAST));
            put(row, after);
            return after != before;
        }

        void clear() {
            Arrays.fill(rows, 0);
        }

        void copy(Board from) {
            for (int row = 0; row < SIDE; row++) {
                rows[row] = from.bits(row);
            }
        }

        int alive() {
            int many = 0;
            for (int row = 0; row < SIDE; row++) {
                many += Integer.bitCount(rows[row]);
            }
            return many;
        }

        /** The lowest CELL that is ALIVE, 16 times the row, and the column; NONE without. */
        int lowest() {
            for (int cell = 0; cell < CELLS; cell++) {
                if ((bits(cell / SIDE) >>> cell % SIDE & 1) == 1) {
                    return cell;
                }
            }
            return NONE;
        }

        static int rotated(int bits, int right) {
            int by = right & LAST;
            return ((bits << by) | (bits >>> (SIDE - by))) & FULL;
        }

        static int mirrored(int bits) {
            int mirrored = 0;
            for (int column = 0; column < SIDE; column++) {
                mirrored |= (bits >>> column & 1) << (LAST - column);
            }
            return mirrored;
        }

        void mirror() {
            for (int row = 0; row < SIDE; row++) {
                rows[row] = mirrored(rows[row]);
            }
        }

        void turnFrom(Board from) {
            clear();
            for (int row = 0; row < SIDE; row++) {
                for (int column = 0; column < SIDE; column++) {
                    if ((from.bits(row) >>> column & 1) == 1) {
                        enliven(column, -row);
                    }
                }
            }
        }

        void shiftOf(Board from, int down, int right) {
            for (int row = 0; row < SIDE; row++) {
                rows[row] = rotated(from.bits(row - down), right);
            }
        }

        boolean isShiftOf(Board from, int down, int right) {
            for (int row = 0; row < SIDE; row++) {
                if (rows[row] != rotated(from.bits(row - down), right)) {
                    return false;
                }
            }
            return true;
        }

        /** The first SHIFT that makes this of the other, 16 times its rows, and its columns; NONE without. */
        int shiftFrom(Board from) {
            if (alive() != from.alive()) {
                return NONE;
            }
            for (int shift = 0; shift < CELLS; shift++) {
                if (isShiftOf(from, shift / SIDE, shift % SIDE)) {
                    return shift;
                }
            }
            return NONE;
        }

        boolean isAtMostShiftOf(Board other, int down, int right) {
            for (int row = 0; row < SIDE; row++) {
                int shifted = rotated(other.bits(row - down), right);
                if (rows[row] != shifted) {
                    return rows[row] < shifted;
                }
            }
            return true;
        }

        void tickFrom(Board now, int births, int stays) {
            for (int row = 0; row < SIDE; row++) {
                rows[row] = changed(now.bits(row - 1), now.bits(row), now.bits(row + 1), births, stays);
            }
        }

        /**
         * Counts the NEIGHBOURS of all CELLS of a row together: the bits of ones, twos, fours and
         * eights at a column are the digits of the number there, added up by whole rows.
         */
        private static int changed(int above, int here, int below, int births, int stays) {
            int aboveLeft = rotated(above, 1);
            int aboveRight = rotated(above, LAST);
            int left = rotated(here, 1);
            int right = rotated(here, LAST);
            int belowLeft = rotated(below, 1);
            int belowRight = rotated(below, LAST);
            int aboveOnes = aboveLeft ^ above ^ aboveRight;
            int hereOnes = left ^ right;
            int belowOnes = belowLeft ^ below ^ belowRight;
            int ones = aboveOnes ^ hereOnes ^ belowOnes;
            int twosOfRows = atLeastTwo(aboveLeft, above, aboveRight);
            int twosBelow = atLeastTwo(belowLeft, below, belowRight);
            int twosHere = left & right;
            int twosOver = atLeastTwo(aboveOnes, hereOnes, belowOnes);
            int firstTwos = twosOfRows ^ twosBelow;
            int firstFours = twosOfRows & twosBelow;
            int lastTwos = twosHere ^ twosOver;
            int lastFours = twosHere & twosOver;
            int twos = firstTwos ^ lastTwos;
            int fours = firstFours ^ lastFours ^ (firstTwos & lastTwos);
            int eights = firstFours & lastFours;
            int born = 0;
            int staying = 0;
            for (int count = 0; count <= MOST_NEIGHBOURS; count++) {
                int those = digit(ones, count) & digit(twos, count >>> 1)
                        & digit(fours, count >>> 2) & digit(eights, count >>> 3);
                born |= (births >>> count & 1) == 1 ? those : 0;
                staying |= (stays >>> count & 1) == 1 ? those : 0;
            }
            return ((born & ~here) | (staying & here)) & FULL;
        }

        private static int atLeastTwo(int first, int second, int third) {
            return (first & second) | (first & third) | (second & third);
        }

        void changeBlocks(int phase) {
            for (int row = phase & 1; row < SIDE; row += 2) {
                for (int column = phase & 1; column < SIDE; column += 2) {
                    changeBlock(row, column);
                }
            }
        }

        private void changeBlock(int row, int column) {
            int behind = (column + 1) & LAST;
            int upper = bits(row);
            int lower = bits(row + 1);
            int block = (upper >>> column & 1) | (upper >>> behind & 1) << 1
                    | (lower >>> column & 1) << 2 | (lower >>> behind & 1) << 3;
            int after = BLOCK_BECOMES[block & 15];
            int others = ~((1 << column) | (1 << behind));
            put(row, (upper & others) | (after & 1) << column | (after >>> 1 & 1) << behind);
            put(row + 1, (lower & others) | (after >>> 2 & 1) << column | (after >>> 3 & 1) << behind);
        }

        /** Adds what hangs together with this and is within the other; whether that was anything. */
        boolean growWithin(Board within) {
            boolean grew = false;
            for (int row = 0; row < SIDE; row++) {
                int near = bits(row - 1) | bits(row) | bits(row + 1);
                int grown = (near | rotated(near, 1) | rotated(near, LAST)) & within.bits(row);
                if (grown != rows[row]) {
                    grew = true;
                }
                rows[row] = grown;
            }
            return grew;
        }

        void takeAway(Board other) {
            for (int row = 0; row < SIDE; row++) {
                rows[row] &= ~other.bits(row);
            }
        }

        void keepIn(int[] store, int from) {
            for (int row = 0; row < SIDE; row++) {
                if (isWithin(from + row, 0, store.length - 1)) {
                    store[from + row] = rows[row];
                }
            }
        }

        void comeFrom(int[] store, int from) {
            for (int row = 0; row < SIDE; row++) {
                if (isWithin(from + row, 0, store.length - 1)) {
                    put(row, store[from + row]);
                }
            }
        }

        boolean isIn(int[] store, int from) {
            for (int row = 0; row < SIDE; row++) {
                if (!isWithin(from + row, 0, store.length - 1) || store[from + row] != rows[row]) {
                    return false;
                }
            }
            return true;
        }
    }

    /** Finds the CANON of a BOARD; its own BOARDS are used again by each call. */
    private static final class Canons {
        private final Board least = new Board();
        private final Board way = new Board();
        private final Board turned = new Board();

        Board leastOf(Board board) {
            least.copy(board);
            way.copy(board);
            for (int turns = 0; turns < 8; turns++) {
                if (turns == 4) {
                    way.mirror();
                }
                tryShifts();
                turned.turnFrom(way);
                way.copy(turned);
            }
            return least;
        }

        private void tryShifts() {
            for (int down = 0; down < SIDE; down++) {
                for (int right = 0; right < SIDE; right++) {
                    if (!least.isAtMostShiftOf(way, down, right)) {
                        least.shiftOf(way, down, right);
                    }
                }
            }
        }
    }

    private static final class Catalog {
        private final int[] rows = new int[MOST_ENTRIES * SIDE];
        private final int[] times = new int[MOST_ENTRIES];
        private int many = 0;

        boolean isFull() {
            return many >= MOST_ENTRIES;
        }

        int find(Board canon) {
            for (int entry = 0; entry < many; entry++) {
                if (canon.isIn(rows, entry * SIDE)) {
                    return entry;
                }
            }
            return NONE;
        }

        int add(Board canon) {
            int entry = many;
            canon.keepIn(rows, entry * SIDE);
            many++;
            return entry;
        }

        void count(int entry) {
            if (isWithin(entry, 0, MOST_ENTRIES - 1)) {
                times[entry]++;
            }
        }

        int timesOf(int entry) {
            return entry >= 0 && entry < many && entry < MOST_ENTRIES ? times[entry] : NONE;
        }
    }

    /** Separates a BOARD into its OBJECTS; the BOARDS are used again by each call. */
    private static final class Parts {
        private final Board left = new Board();
        private final Board part = new Board();

        /** Separates some OBJECTS, in their order, keeps the last of them; how many there were. */
        int separate(Board board, int most) {
            left.copy(board);
            for (int found = 0; found < most; found++) {
                int lowest = left.lowest();
                if (lowest == NONE) {
                    return found;
                }
                growFrom(lowest);
                left.takeAway(part);
            }
            return most;
        }

        private void growFrom(int cell) {
            part.clear();
            part.enliven(cell / SIDE, cell % SIDE);
            // each round but the last adds a CELL at least, so that CELLS rounds are enough
            for (int round = 0; round < CELLS; round++) {
                if (!part.growWithin(left)) {
                    return;
                }
            }
        }

        int lowestOfLast() {
            return part.lowest();
        }

        int sizeOfLast() {
            return part.alive();
        }
    }

    private static final class Marks {
        private final int[] rows = new int[MOST_MARKS * SIDE];
        private final int[] phases = new int[MOST_MARKS];
        private int many = 0;

        boolean isFull() {
            return many >= MOST_MARKS;
        }

        boolean isEmpty() {
            return many <= 0;
        }

        int size() {
            return many;
        }

        int push(Board board, int phase) {
            if (isWithin(many, 0, MOST_MARKS - 1)) {
                board.keepIn(rows, many * SIDE);
                phases[many] = phase;
                many++;
            }
            return many;
        }

        /** Gives the BOARD of the latest back into the one given; its PHASE. */
        int pop(Board board) {
            int latest = many - 1;
            if (!isWithin(latest, 0, MOST_MARKS - 1)) {
                return 0;
            }
            board.comeFrom(rows, latest * SIDE);
            many = latest;
            return phases[latest];
        }
    }

    private static final class Rings {
        private static final int LEAST_CELLS = 3;
        private static final int MOST_CELLS = 12;
        private static final int PAIRS = 4;
        private static final int LAST_PAIR = PAIRS - 1;

        /** By a pair, 2 for a CELL and 1 for the one behind it, how many ways lead to it. */
        private final int[] ways = new int[PAIRS];
        private final int[] waysBehind = new int[PAIRS];

        static int full(int many) {
            return (1 << many) - 1;
        }

        int becomes(int number, int many, int ring) {
            int before = (ring << 1) | (ring >>> (many - 1));
            int behind = (ring >>> 1) | (ring << (many - 1));
            int next = 0;
            for (int how = 0; how < 8; how++) {
                if ((number >>> how & 1) == 1) {
                    next |= digit(before, how >>> 2) & digit(ring, how >>> 1) & digit(behind, how);
                }
            }
            return next & full(many);
        }

        int countAll(int number, int many, int ring) {
            int found = 0;
            for (int other = 0; other <= full(many); other++) {
                if (becomes(number, many, other) == ring) {
                    found++;
                }
            }
            return found;
        }

        int leastParent(int number, int many, int ring) {
            for (int other = 0; other <= full(many); other++) {
                if (becomes(number, many, other) == ring) {
                    return other;
                }
            }
            return NONE;
        }

        /** A parent is a way round, CELL by CELL, that comes back to the pair it began with. */
        int countByCells(int number, int many, int ring) {
            int found = 0;
            for (int pair = 0; pair < PAIRS; pair++) {
                found += countFrom(pair, number, many, ring);
            }
            return found;
        }

        private int countFrom(int pair, int number, int many, int ring) {
            Arrays.fill(ways, 0);
            ways[pair & LAST_PAIR] = 1;
            for (int cell = 1; cell <= many; cell++) {
                int wanted = ring >>> (cell == many ? 0 : cell) & 1;
                passCell(number, wanted);
            }
            return ways[pair & LAST_PAIR];
        }

        private void passCell(int number, int wanted) {
            Arrays.fill(waysBehind, 0);
            for (int how = 0; how < 8; how++) {
                if ((number >>> how & 1) == wanted) {
                    waysBehind[how & LAST_PAIR] += ways[how >>> 1 & LAST_PAIR];
                }
            }
            for (int pair = 0; pair < PAIRS; pair++) {
                ways[pair] = waysBehind[pair];
            }
        }
    }
}
