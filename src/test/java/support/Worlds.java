import java.util.Arrays;

/** What the tests of single promises share: objects in some state, and looks at what is on the BOARD. */
abstract class Worlds {
    static final Class<IllegalArgumentException> ARGUMENT = IllegalArgumentException.class;
    static final Class<IllegalStateException> STATE = IllegalStateException.class;
    static final Class<IndexOutOfBoundsException> INDEX = IndexOutOfBoundsException.class;
    static final int MIN = Integer.MIN_VALUE;
    static final int MAX = Integer.MAX_VALUE;
    static final int FULL_ROW = 65535;
    /** Rows that, alone on a BOARD, are each of another CANON: one more than a CATALOG takes. */
    static final int[] RECORDED = {0, 1, 3, 7, 15, 31, 63, 127, 255, 511, 1023, 2047, 4095, 8191, 16383, 32767,
        65535, 5, 9, 17, 33};
    /** By how many NEIGHBOURS a CELL comes to be ALIVE, and by how many it stays so, at first. */
    static final String LIFE = "3/23";

    final Check check = new Check();

    static Gliderwright typed(Gliderwright world, String word) {
        for (char letter : word.toCharArray()) {
            world.type(letter);
        }
        return world;
    }

    /** A new object with rows from a first one on, the other rows empty. */
    static Gliderwright world(int first, int... rows) {
        Gliderwright world = new Gliderwright();
        for (int at = 0; at < rows.length; at++) {
            world.set((first + at) % 16, rows[at]);
        }
        return world;
    }

    /** A new object with single CELLS, each by its row and its column, round the BOARD where it ends. */
    static Gliderwright withCells(int[]... cells) {
        Gliderwright world = new Gliderwright();
        int[] rows = rowsOf(cells);
        for (int row = 0; row < 16; row++) {
            world.set(row, rows[row]);
        }
        return world;
    }

    static int[] rowsOf(int[]... cells) {
        int[] rows = new int[16];
        for (int[] cell : cells) {
            rows[Math.floorMod(cell[0], 16)] |= 1 << Math.floorMod(cell[1], 16);
        }
        return rows;
    }

    static Gliderwright placed(String word, int row, int column, int turns) {
        Gliderwright world = typed(new Gliderwright(), word);
        world.place(row, column, turns);
        return world;
    }

    static Gliderwright full() {
        Gliderwright world = new Gliderwright();
        world.soup(0, 100, 0);
        return world;
    }

    static Gliderwright ruled(Gliderwright world, int births, int stays) {
        world.table(births, stays);
        return world;
    }

    static int[] rows(Gliderwright world) {
        int[] rows = new int[16];
        for (int row = 0; row < 16; row++) {
            rows[row] = world.row(row);
        }
        return rows;
    }

    static String told(Gliderwright world) {
        return Arrays.toString(rows(world));
    }

    static String toldCanon(Gliderwright world) {
        int[] rows = new int[16];
        for (int row = 0; row < 16; row++) {
            rows[row] = world.canon(row);
        }
        return Arrays.toString(rows);
    }

    static String toldNature(Gliderwright world, int ticks) {
        return world.nature(ticks, 0) + " " + world.nature(ticks, 1) + " " + world.nature(ticks, 2) + " "
                + world.nature(ticks, 3);
    }

    static int[] lone(int first, int... rows) {
        int[] all = new int[16];
        for (int at = 0; at < rows.length; at++) {
            all[(first + at) % 16] = rows[at];
        }
        return all;
    }

    void isBoard(String call, Gliderwright world, int first, int... rows) {
        check.same(call, told(world), Arrays.toString(lone(first, rows)));
    }

    void isBoard(String call, Gliderwright world, int[][] cells) {
        check.same(call, told(world), Arrays.toString(rowsOf(cells)));
    }

    static int phaseOf(Gliderwright world) {
        world.blocks(1, true);
        return world.blocks(1, false);
    }

    /**
     * The RULE, by which numbers of NEIGHBOURS a CELL is born and by which it stays, as 3/23: a BOARD
     * with all eighteen ways to be, each in a square of 3 by 3 CELLS of its own, is ticked once.
     */
    static String ruleOf(Gliderwright world) {
        int[] rows = new int[16];
        for (int way = 0; way < 18; way++) {
            int cells = way < 9 ? 0 : 1 << 4;
            for (int cell = 0, left = way % 9; cell < 9 && left > 0; cell++) {
                if (cell != 4) {
                    cells |= 1 << cell;
                    left--;
                }
            }
            for (int cell = 0; cell < 9; cell++) {
                rows[way / 5 * 3 + cell / 3] |= (cells >> cell & 1) << way % 5 * 3 + cell % 3;
            }
        }
        for (int row = 0; row < 16; row++) {
            world.set(row, rows[row]);
        }
        world.tick(1);
        StringBuilder rule = new StringBuilder();
        for (int way = 0; way < 18; way++) {
            rule.append(way == 9 ? "/" : "");
            if ((world.row(way / 5 * 3 + 1) >> way % 5 * 3 + 1 & 1) == 1) {
                rule.append(way % 9);
            }
        }
        return rule.toString();
    }

    /** A call that is made of an object in one state or another. */
    interface Deed {
        Object on(Gliderwright world);
    }

    /** The call is refused whatever the state is, and leaves all as it is. */
    void refused(String call, Class<? extends RuntimeException> due, Deed deed) {
        for (Start start : Start.values()) {
            refused(call, due, start, deed);
        }
    }

    void refused(String call, Class<? extends RuntimeException> due, Start start, Deed deed) {
        Gliderwright world = start.world();
        check.refused(call + " of one that is " + start, due, () -> deed.on(world));
        check.same("what is there behind " + call + " of one that is " + start,
                Told.of(world), Told.of(start.world()));
    }

    /** Whatever the state is, the call leaves all as it is but for these parts. */
    void changesAtMost(String call, Deed deed, String... parts) {
        for (Start start : Start.values()) {
            Gliderwright world = start.world();
            Check.answerOf(() -> deed.on(world));
            var told = Told.of(world);
            var due = Told.of(start.world());
            for (String part : due.keySet()) {
                if (!Arrays.asList(parts).contains(part)) {
                    check.same(call + " of one that is " + start + ", the " + part, told.get(part), due.get(part));
                }
            }
        }
    }
}
