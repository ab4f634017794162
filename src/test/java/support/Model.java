import java.util.ArrayDeque;
import java.util.ArrayList;
import java.util.Arrays;
import java.util.HashMap;
import java.util.LinkedHashMap;
import java.util.List;
import java.util.Map;
import java.util.TreeMap;

/**
 * The document once more, as slowly and plainly as it can be said: one boolean a CELL, and every
 * shift, turn and ring tried. Runs of calls compare the class with it.
 */
final class Model {
    private static final Map<String, int[][]> RULES = new LinkedHashMap<>();
    private static final Map<String, int[][]> PATTERNS = new LinkedHashMap<>();

    static {
        RULES.put("life", new int[][] {{3}, {2, 3}});
        RULES.put("seeds", new int[][] {{2}, {}});
        RULES.put("high", new int[][] {{3, 6}, {2, 3}});
        RULES.put("maze", new int[][] {{3}, {1, 2, 3, 4, 5}});
        RULES.put("day", new int[][] {{3, 6, 7, 8}, {3, 4, 6, 7, 8}});
        PATTERNS.put("block", new int[][] {{0, 0}, {0, 1}, {1, 0}, {1, 1}});
        PATTERNS.put("blinker", new int[][] {{0, 0}, {0, 1}, {0, 2}});
        PATTERNS.put("glider", new int[][] {{0, 1}, {1, 2}, {2, 0}, {2, 1}, {2, 2}});
        PATTERNS.put("beacon", new int[][] {{0, 0}, {0, 1}, {1, 0}, {2, 3}, {3, 2}, {3, 3}});
        PATTERNS.put("ship", new int[][] {{0, 1}, {0, 4}, {1, 0}, {2, 0}, {2, 4}, {3, 0}, {3, 1}, {3, 2}, {3, 3}});
    }

    private record Kept(boolean[][] cells, int phase) {
    }

    private boolean[][] cells = new boolean[16][16];
    private boolean[] births = setOf(3);
    private boolean[] stays = setOf(2, 3);
    private String typed = "";
    private int phase = 0;
    private final List<String> entries = new ArrayList<>();
    private final List<Integer> times = new ArrayList<>();
    private final List<Kept> marks = new ArrayList<>();
    private final Map<String, int[]> canonsFound = new HashMap<>();

    private static boolean[] setOf(int... members) {
        boolean[] set = new boolean[9];
        for (int member : members) {
            set[member] = true;
        }
        return set;
    }

    private static void index(boolean isRight) {
        if (!isRight) {
            throw new IndexOutOfBoundsException();
        }
    }

    private static void argument(boolean isRight) {
        if (!isRight) {
            throw new IllegalArgumentException();
        }
    }

    private static void state(boolean isRight) {
        if (!isRight) {
            throw new IllegalStateException();
        }
    }

    int type(char letter) {
        argument("abcdefghijklmnopqrstuvwxyz".indexOf(letter) >= 0);
        state(typed.length() < 8);
        typed += letter;
        return typed.length();
    }

    boolean rule() {
        int[][] sets = RULES.get(typed);
        typed = "";
        if (sets != null) {
            births = setOf(sets[0]);
            stays = setOf(sets[1]);
        }
        return sets != null;
    }

    void table(int births, int stays) {
        argument(births >= 0 && births <= 511 && stays >= 0 && stays <= 511);
        for (int count = 0; count <= 8; count++) {
            this.births[count] = (births / (1 << count)) % 2 == 1;
            this.stays[count] = (stays / (1 << count)) % 2 == 1;
        }
    }

    int place(int row, int column, int turns) {
        index(row >= 0 && row < 16 && column >= 0 && column < 16);
        argument(turns >= 0 && turns < 4);
        int[][] pattern = PATTERNS.get(typed);
        typed = "";
        if (pattern == null) {
            return -1;
        }
        int before = count(cells);
        for (int[] cell : pattern) {
            int[] turned = switch (turns) {
                case 0 -> cell;
                case 1 -> new int[] {cell[1], -cell[0]};
                case 2 -> new int[] {-cell[0], -cell[1]};
                default -> new int[] {-cell[1], cell[0]};
            };
            cells[Math.floorMod(row + turned[0], 16)][Math.floorMod(column + turned[1], 16)] = true;
        }
        return count(cells) - before;
    }

    int set(int row, int bits) {
        index(row >= 0 && row < 16);
        argument(bits >= 0 && bits < 65536);
        int before = bitsOf(cells[row]);
        for (int column = 0; column < 16; column++) {
            cells[row][column] = (bits / (1 << column)) % 2 == 1;
        }
        return before;
    }

    int row(int row) {
        index(row >= 0 && row < 16);
        return bitsOf(cells[row]);
    }

    int tick(int ticks) {
        argument(ticks >= 1 && ticks <= 200);
        cells = behind(ticks);
        return count(cells);
    }

    int would(int ticks) {
        argument(ticks >= 0 && ticks <= 200);
        return count(behind(ticks));
    }

    int nature(int ticks, int what) {
        argument(ticks >= 1 && ticks <= 64 && what >= 0 && what <= 3);
        int[] found = {4, -1, -1, -1};
        if (count(cells) == 0) {
            found[0] = 0;
        } else {
            boolean[][] then = cells;
            for (int period = 1; period <= ticks && found[1] < 0; period++) {
                then = next(then);
                int[] shift = shiftBetween(cells, then);
                if (shift != null) {
                    boolean isStill = shift[0] == 0 && shift[1] == 0;
                    found = new int[] {!isStill ? 3 : period == 1 ? 1 : 2, period, shift[0], shift[1]};
                }
            }
        }
        return found[what];
    }

    int canon(int row) {
        index(row >= 0 && row < 16);
        return canonOf(cells)[row];
    }

    int record() {
        String canon = Arrays.toString(canonOf(cells));
        if (!entries.contains(canon)) {
            state(entries.size() < 20);
            entries.add(canon);
            times.add(0);
        }
        int entry = entries.indexOf(canon);
        times.set(entry, times.get(entry) + 1);
        return entry;
    }

    int recorded(int entry) {
        index(entry >= 0 && entry < entries.size());
        return times.get(entry);
    }

    int known() {
        return entries.indexOf(Arrays.toString(canonOf(cells)));
    }

    int objects() {
        return sizesByLowest().size();
    }

    int object(int object, boolean isLowest) {
        List<Map.Entry<Integer, Integer>> all = new ArrayList<>(sizesByLowest().entrySet());
        index(object >= 0 && object < all.size());
        return isLowest ? all.get(object).getKey() : all.get(object).getValue();
    }

    int soup(int seed, int density, int symmetry) {
        argument(seed >= 0 && seed < 65536 && density >= 0 && density <= 100 && symmetry >= 0 && symmetry < 3);
        boolean[][] soup = new boolean[16][16];
        long drawn = seed;
        for (int row = 0; row < 16; row++) {
            for (int column = 0; column < 16; column++) {
                if (symmetry >= 1 && column > 7) {
                    soup[row][column] = soup[row][15 - column];
                } else if (symmetry == 2 && row > 7) {
                    soup[row][column] = soup[15 - row][column];
                } else {
                    drawn = (drawn * 1103 + 12345) % 65536;
                    soup[row][column] = drawn % 100 < density;
                }
            }
        }
        cells = soup;
        return count(cells);
    }

    int blocks(int steps, boolean isForward) {
        argument(steps >= 1 && steps <= 200);
        for (int step = 0; step < steps; step++) {
            if (!isForward) {
                phase = 1 - phase;
            }
            changeBlocks();
            if (isForward) {
                phase = 1 - phase;
            }
        }
        return phase;
    }

    int mark() {
        state(marks.size() < 8);
        marks.add(new Kept(copyOf(cells), phase));
        return marks.size();
    }

    int undo() {
        state(!marks.isEmpty());
        Kept latest = marks.remove(marks.size() - 1);
        cells = latest.cells();
        phase = latest.phase();
        return marks.size();
    }

    int ring(int number, int many, int ring, int ticks) {
        ringArguments(number, many, ring);
        argument(ticks >= 0 && ticks <= 1000);
        int now = ring;
        for (int tick = 0; tick < ticks; tick++) {
            now = ringBehind(number, many, now);
        }
        return now;
    }

    int parents(int number, int many, int ring) {
        ringArguments(number, many, ring);
        return parentsOf(number, many, ring).size();
    }

    int parentsAnew(int number, int many, int ring) {
        return parents(number, many, ring);
    }

    int parent(int number, int many, int ring) {
        ringArguments(number, many, ring);
        List<Integer> all = parentsOf(number, many, ring);
        return all.isEmpty() ? -1 : all.get(0);
    }

    private static int count(boolean[][] board) {
        int many = 0;
        for (boolean[] row : board) {
            for (boolean cell : row) {
                many += cell ? 1 : 0;
            }
        }
        return many;
    }

    private static int bitsOf(boolean[] row) {
        int bits = 0;
        for (int column = 15; column >= 0; column--) {
            bits = bits * 2 + (row[column] ? 1 : 0);
        }
        return bits;
    }

    private static boolean[][] copyOf(boolean[][] board) {
        boolean[][] copy = new boolean[16][];
        for (int row = 0; row < 16; row++) {
            copy[row] = board[row].clone();
        }
        return copy;
    }

    private boolean[][] behind(int ticks) {
        boolean[][] then = copyOf(cells);
        for (int tick = 0; tick < ticks; tick++) {
            then = next(then);
        }
        return then;
    }

    private boolean[][] next(boolean[][] board) {
        boolean[][] then = new boolean[16][16];
        for (int row = 0; row < 16; row++) {
            for (int column = 0; column < 16; column++) {
                int neighbours = board[row][column] ? -1 : 0;
                for (int near = 0; near < 9; near++) {
                    if (board[(row + near / 3 + 15) % 16][(column + near % 3 + 15) % 16]) {
                        neighbours++;
                    }
                }
                then[row][column] = board[row][column] ? stays[neighbours] : births[neighbours];
            }
        }
        return then;
    }

    private static boolean[][] shifted(boolean[][] board, int down, int right) {
        boolean[][] moved = new boolean[16][16];
        for (int row = 0; row < 16; row++) {
            for (int column = 0; column < 16; column++) {
                moved[(row + down) % 16][(column + right) % 16] = board[row][column];
            }
        }
        return moved;
    }

    private static int[] shiftBetween(boolean[][] now, boolean[][] then) {
        if (count(now) != count(then)) {
            return null;
        }
        for (int down = 0; down < 16; down++) {
            for (int right = 0; right < 16; right++) {
                if (Arrays.deepEquals(shifted(now, down, right), then)) {
                    return new int[] {down, right};
                }
            }
        }
        return null;
    }

    private int[] canonOf(boolean[][] board) {
        return canonsFound.computeIfAbsent(Arrays.deepToString(board), unused -> findCanon(board));
    }

    private static int[] findCanon(boolean[][] board) {
        int[] least = null;
        for (int way = 0; way < 8; way++) {
            boolean[][] turned = new boolean[16][16];
            for (int row = 0; row < 16; row++) {
                for (int column = 0; column < 16; column++) {
                    int toRow = (way & 1) == 0 ? row : 15 - row;
                    int toColumn = (way & 2) == 0 ? column : 15 - column;
                    turned[(way & 4) == 0 ? toRow : toColumn][(way & 4) == 0 ? toColumn : toRow] = board[row][column];
                }
            }
            for (int shift = 0; shift < 256; shift++) {
                boolean[][] moved = shifted(turned, shift / 16, shift % 16);
                int[] told = new int[16];
                for (int row = 0; row < 16; row++) {
                    told[row] = bitsOf(moved[row]);
                }
                if (least == null || Arrays.compare(told, least) < 0) {
                    least = told;
                }
            }
        }
        return least;
    }

    private TreeMap<Integer, Integer> sizesByLowest() {
        TreeMap<Integer, Integer> sizes = new TreeMap<>();
        boolean[] seen = new boolean[256];
        for (int cell = 0; cell < 256; cell++) {
            if (!cells[cell / 16][cell % 16] || seen[cell]) {
                continue;
            }
            int size = 0;
            ArrayDeque<Integer> open = new ArrayDeque<>(List.of(cell));
            seen[cell] = true;
            while (!open.isEmpty()) {
                int one = open.pop();
                size++;
                for (int near = 0; near < 9; near++) {
                    int row = (one / 16 + near / 3 + 15) % 16;
                    int column = (one % 16 + near % 3 + 15) % 16;
                    if (cells[row][column] && !seen[16 * row + column]) {
                        seen[16 * row + column] = true;
                        open.push(16 * row + column);
                    }
                }
            }
            sizes.put(cell, size);
        }
        return sizes;
    }

    private void changeBlocks() {
        for (int row = phase; row < 16; row += 2) {
            for (int column = phase; column < 16; column += 2) {
                int below = (row + 1) % 16;
                int behind = (column + 1) % 16;
                boolean upperLeft = cells[row][column];
                boolean upperRight = cells[row][behind];
                boolean lowerLeft = cells[below][column];
                boolean lowerRight = cells[below][behind];
                int many = (upperLeft ? 1 : 0) + (upperRight ? 1 : 0) + (lowerLeft ? 1 : 0) + (lowerRight ? 1 : 0);
                if (many == 1) {
                    cells[row][column] = lowerRight;
                    cells[row][behind] = lowerLeft;
                    cells[below][column] = upperRight;
                    cells[below][behind] = upperLeft;
                } else if (many == 2 && upperLeft == lowerRight) {
                    cells[row][column] = !upperLeft;
                    cells[row][behind] = !upperRight;
                    cells[below][column] = !lowerLeft;
                    cells[below][behind] = !lowerRight;
                }
            }
        }
    }

    private static void ringArguments(int number, int many, int ring) {
        argument(number >= 0 && number <= 255 && many >= 3 && many <= 12);
        argument(ring >= 0 && ring < 1 << many);
    }

    private static int ringBehind(int number, int many, int ring) {
        int then = 0;
        for (int cell = 0; cell < many; cell++) {
            int before = ring >> (cell + many - 1) % many & 1;
            int itself = ring >> cell & 1;
            int behind = ring >> (cell + 1) % many & 1;
            then += (number >> 4 * before + 2 * itself + behind & 1) << cell;
        }
        return then;
    }

    private static List<Integer> parentsOf(int number, int many, int ring) {
        List<Integer> all = new ArrayList<>();
        for (int other = 0; other < 1 << many; other++) {
            if (ringBehind(number, many, other) == ring) {
                all.add(other);
            }
        }
        return all;
    }
}
