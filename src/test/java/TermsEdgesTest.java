import java.io.IOException;
import java.util.Arrays;
import java.util.Map;

/** The terms of the document, sentence by sentence, at the boundaries that they name. */
public final class TermsEdgesTest extends Worlds {
    private static final int[] RIM = {0, 1, 14, 15};
    private static final Map<String, int[][]> PATTERNS = Map.of(
            "block", new int[][] {{0, 0}, {0, 1}, {1, 0}, {1, 1}},
            "blinker", new int[][] {{0, 0}, {0, 1}, {0, 2}},
            "glider", new int[][] {{0, 1}, {1, 2}, {2, 0}, {2, 1}, {2, 2}},
            "beacon", new int[][] {{0, 0}, {0, 1}, {1, 0}, {2, 3}, {3, 2}, {3, 3}},
            "ship", new int[][] {{0, 1}, {0, 4}, {1, 0}, {2, 0}, {2, 4}, {3, 0}, {3, 1}, {3, 2}, {3, 3}});
    private static final String NO_NATURE = " -1 -1 -1";
    private static final String EMPTY = Gliderwright.EMPTY + NO_NATURE;
    private static final String UNKNOWN = Gliderwright.UNKNOWN + NO_NATURE;
    private static final String REST = Gliderwright.REST + " 1 0 0";

    private final Document document = new Document(check);

    private TermsEdgesTest() throws IOException {
    }

    public static void main(String[] args) throws IOException {
        TermsEdgesTest all = new TermsEdgesTest();
        all.document.under("What it is");
        all.document.pass("Worlds of cells, as an object");
        all.lastCall();
        all.document.under("Terms");
        all.refusals();
        all.severalExceptions();
        all.document.pass("The BOARD, RULES");
        all.board();
        all.cells();
        all.neighbours();
        all.ruleSets();
        all.ticks();
        all.firstRule();
        all.namedRules();
        all.document.under("PATTERNS");
        all.patterns();
        all.turns();
        all.placing();
        all.words();
        all.document.pass("NATURE, CANON");
        all.emptyNature();
        all.period();
        all.firstShift();
        all.kinds();
        all.emptyWhateverTheRule();
        all.canon();
        all.canonRowsInOrder();
        all.catalog();
        all.document.pass("OBJECTS, SOUPS");
        all.objects();
        all.objectsInOrder();
        all.soupRanges();
        all.drawnCells();
        all.drawnByTheSeed();
        all.mirroredCells();
        all.document.under("BLOCKS");
        all.firstPhase();
        all.blockPlaces();
        all.blockKinds();
        all.forwardAndBack();
        all.phaseStays();
        all.marks();
        all.document.under("Rings");
        all.rings();
        all.ringNumbers();
        all.ringParents();
        all.remarks();
        all.document.under("Not promised");
        all.document.pass("How the state is held");
        all.document.pass("Use of one object from several threads");
        all.document.pass("Nothing is promised beyond");
        all.document.end("Gliderwright", "The public face", "Promise ");
        all.check.end();
    }

    // ---- what it is

    private void lastCall() {
        document.cite("An object is used for at most 512 calls");
        Gliderwright glider = placed("glider", 0, 0, 0);
        for (int call = 7; call < 510; call++) {
            glider.tick(200);
        }
        check.same("tick, the call 511", glider.tick(1), 5);
        check.same("tick, the call 512", glider.tick(3), 5);
        int far = (503 * 50 + 1) % 16;
        isBoard("a glider behind 512 calls", glider, cells("glider", far, far, 0));
        Gliderwright often = new Gliderwright();
        for (int call = 0; call < 511; call++) {
            often.record();
        }
        check.same("recorded, the call 512", often.recorded(0), 511);
        Gliderwright marked = new Gliderwright();
        for (int call = 0; call < 510; call += 2) {
            marked.mark();
            marked.undo();
        }
        check.same("mark, the call 511", marked.mark(), 1);
        check.same("undo, the call 512", marked.undo(), 0);
        Gliderwright letters = new Gliderwright();
        for (int call = 0; call < 511; call++) {
            Check.answerOf(() -> letters.type('x'));
        }
        check.refused("type, the call 512", STATE, () -> letters.type('x'));
        Gliderwright asked = full();
        for (int call = 1; call < 511; call++) {
            asked.ring(30, 12, 1, 1000);
        }
        check.same("parents, the call 512", asked.parents(0, 12, 0), 4096);
    }

    // ---- refused calls

    private void refusals() {
        document.cite("A call of a method that throws an exception changes nothing");
        checkThatChangesAreTold();
        refused("type", ARGUMENT, world -> world.type('A'));
        refused("type", STATE, Start.FULL, world -> world.type('r'));
        refused("table", ARGUMENT, world -> {
            world.table(512, 0);
            return 0;
        });
        refused("table", ARGUMENT, world -> {
            world.table(0, -1);
            return 0;
        });
        refused("place", INDEX, world -> world.place(16, 0, 0));
        refused("place", ARGUMENT, world -> world.place(0, 0, 4));
        refused("set", INDEX, world -> world.set(-1, 3));
        refused("set", ARGUMENT, world -> world.set(3, 65536));
        refused("row", INDEX, world -> world.row(16));
        refused("tick", ARGUMENT, world -> world.tick(201));
        refused("would", ARGUMENT, world -> world.would(-1));
        refused("nature", ARGUMENT, world -> world.nature(65, 0));
        refused("canon", INDEX, world -> world.canon(-1));
        refused("record", STATE, Start.FULL, Gliderwright::record);
        refused("recorded", INDEX, world -> world.recorded(20));
        refused("object", INDEX, world -> world.object(-1, true));
        refused("soup", ARGUMENT, world -> world.soup(1, 50, 3));
        refused("blocks", ARGUMENT, world -> world.blocks(0, true));
        refused("mark", STATE, Start.FULL, Gliderwright::mark);
        refused("undo", STATE, Start.NEW, Gliderwright::undo);
        refused("ring", ARGUMENT, world -> world.ring(256, 3, 0, 1));
        refused("parents", ARGUMENT, world -> world.parents(0, 13, 0));
        refused("parentsAnew", ARGUMENT, world -> world.parentsAnew(0, 3, 8));
        refused("parent", ARGUMENT, world -> world.parent(0, 2, 0));
    }

    /** What the refusals are told by must itself tell each change that there can be. */
    private void checkThatChangesAreTold() {
        isTold(Told.ROWS, world -> world.set(15, world.row(15) ^ 32768));
        isTold(Told.PHASE, world -> world.blocks(1, true));
        isTold(Told.TYPED, world -> world.type('r'));
        isTold(Told.TYPED, Gliderwright::rule);
        isTold(Told.CATALOG, Gliderwright::record);
        isTold(Told.MARKS, Gliderwright::mark);
        isTold(Told.MARKS, Gliderwright::undo);
        for (int count = 0; count <= 8; count++) {
            int births = 1 << 3 | 1 << 6 | 1 << 7 | 1 << 8;
            int stays = births | 1 << 4;
            int one = 1 << count;
            isTold(Told.RULE, world -> ruled(world, births ^ one, stays).known());
            isTold(Told.RULE, world -> ruled(world, births, stays ^ one).known());
        }
    }

    private void isTold(String part, Deed deed) {
        Gliderwright world = Start.BUSY.world();
        String before = Told.of(world).get(part);
        Gliderwright changed = Start.BUSY.world();
        deed.on(changed);
        check.same("a change of the " + part + " is told", Told.of(changed).get(part).equals(before), false);
    }

    private void severalExceptions() {
        refused("type of no letter with 8", ARGUMENT, Start.FULL, world -> world.type('A'));
        refused("type of no letter with 8", ARGUMENT, Start.FULL, world -> world.type((char) 0));
        refused("place in no row with no turn", INDEX, world -> world.place(16, 0, 4));
        refused("place in no row with no turn", INDEX, world -> world.place(-1, 15, -1));
        refused("place in no column with no turn", INDEX, world -> world.place(0, 16, -1));
        refused("place in no column with no turn", INDEX, world -> world.place(15, -1, 4));
        refused("place with all wrong", INDEX, world -> world.place(MIN, MAX, MIN));
        refused("set of no bits in no row", INDEX, world -> world.set(16, 65536));
        refused("set of no bits in no row", INDEX, world -> world.set(-1, -1));
        refused("set of no bits in no row", INDEX, world -> world.set(MAX, MIN));
    }

    // ---- the BOARD, RULES

    /** The eight CELLS beside one, by going up and down, left and right, round the BOARD. */
    private static int[][] beside(int row, int column) {
        return new int[][] {{row - 1, column - 1}, {row - 1, column}, {row - 1, column + 1}, {row, column - 1},
            {row, column + 1}, {row + 1, column - 1}, {row + 1, column}, {row + 1, column + 1}};
    }

    private void bornBeside(int row, int column) {
        Gliderwright world = ruled(withCells(new int[] {row, column}), 1 << 1, 0);
        check.same("born beside " + row + " " + column, world.tick(1), 8);
        isBoard("born beside " + row + " " + column, world, beside(row, column));
    }

    private void board() {
        document.cite("The BOARD has 16 rows of 16 columns");
        for (int row = 0; row < 16; row++) {
            bornBeside(row, 0);
            bornBeside(row, 15);
            bornBeside(0, row);
            bornBeside(15, row);
        }
        for (int turns = 0; turns < 4; turns++) {
            int down = turns == 0 || turns == 1 ? 1 : -1;
            int right = turns == 0 || turns == 3 ? 1 : -1;
            for (int at : RIM) {
                Gliderwright world = placed("glider", at, 15 - at, turns);
                for (int went = 1; went <= 16; went++) {
                    world.tick(4);
                    isBoard("a glider by " + turns + " turns, " + went + " on", world,
                            cells("glider", at + down * went, 15 - at + right * went, turns));
                }
            }
        }
        Gliderwright corners = world(0, 1 | 1 << 15, 0, 0, 0, 0, 0, 0, 0, 0, 0, 0, 0, 0, 0, 0, 1 | 1 << 15);
        check.same("the corners are a block", toldNature(corners, 1), REST);
        check.same("the last row", corners.row(15), 1 | 1 << 15);
        check.refused("a row behind the last", INDEX, () -> corners.row(16));
        check.refused("a row before the first", INDEX, () -> corners.row(-1));
    }

    private void cells() {
        document.cite("A CELL is ALIVE or not, none is at first.");
        isBoard("the rows of a new one", new Gliderwright(), 0);
        check.same("how many of a new one", new Gliderwright().would(0), 0);
        check.same("how many of a full one", full().would(0), 256);
        Gliderwright twice = placed("block", 15, 15, 0);
        typed(twice, "block").place(15, 15, 0);
        check.same("one placed twice is there once", twice.would(0), 4);
    }

    private void neighbours() {
        document.cite("Its NEIGHBOURS are the eight CELLS");
        for (int row = 1; row < 15; row++) {
            bornBeside(row, 15 - row);
        }
        check.same("lone ones have none", ruled(world(7, 1 << 7), 0, 1).tick(1), 1);
        check.same("lone ones have not one", ruled(world(7, 1 << 7), 0, 510).tick(1), 0);
        check.same("of a full BOARD all have eight", ruled(full(), 0, 256).tick(1), 256);
        check.same("of a full BOARD none has less", ruled(full(), 0, 255).tick(1), 0);
        Gliderwright around = ruled(withCells(twoApart(8, 8)), 510, 0);
        around.tick(1);
        check.same("two rows or columns apart is not beside", around.row(8) >> 8 & 1, 0);
        check.same("one row or column nearer is", around.row(7) >> 8 & around.row(8) >> 7 & 1, 1);
    }

    /** The sixteen CELLS that are two rows or columns from one. */
    private static int[][] twoApart(int row, int column) {
        int[][] around = new int[16][];
        int many = 0;
        for (int down = -2; down <= 2; down++) {
            for (int right = -2; right <= 2; right++) {
                if (Math.abs(down) == 2 || Math.abs(right) == 2) {
                    around[many++] = new int[] {row + down, column + right};
                }
            }
        }
        return around;
    }

    private void ruleSets() {
        document.cite("A RULE has BIRTHS and STAYS, both sets");
        for (int count = 0; count <= 8; count++) {
            check.same("births " + count, ruleOf(ruled(new Gliderwright(), 1 << count, 0)), count + "/");
            check.same("stays " + count, ruleOf(ruled(new Gliderwright(), 0, 1 << count)), "/" + count);
        }
        check.same("no births, no stays", ruleOf(ruled(new Gliderwright(), 0, 0)), "/");
        check.same("all births, all stays", ruleOf(ruled(new Gliderwright(), 511, 511)), "012345678/012345678");
        check.same("births by none, of an empty BOARD", ruled(new Gliderwright(), 1, 0).tick(1), 256);
        check.same("births by all but none", ruled(new Gliderwright(), 510, 511).tick(200), 0);
        check.same("stays by 8, of a full BOARD", ruled(full(), 0, 256).tick(200), 256);
        check.same("stays by all but 8", ruled(full(), 511, 255).tick(1), 0);
        check.same("births by 8 stay out, if all are ALIVE", ruled(full(), 256, 0).tick(1), 0);
    }

    private static Gliderwright squares(int births, int stays) {
        Gliderwright world = ruled(new Gliderwright(), births, stays);
        for (int row = 0; row < 16; row++) {
            world.set(row, row % 2 == 0 ? 21845 : 43690);
        }
        return world;
    }

    private void ticks() {
        document.cite("In a TICK all CELLS change at once");
        Gliderwright squares = squares(1 << 4, 0);
        check.same("each other CELL", squares.tick(1), 128);
        isBoard("they change places", squares, 0, 43690, 21845, 43690, 21845, 43690, 21845, 43690, 21845,
                43690, 21845, 43690, 21845, 43690, 21845, 43690, 21845);
        for (int at : RIM) {
            Gliderwright blinker = placed("blinker", at, at, 0);
            blinker.tick(1);
            isBoard("a blinker at " + at, blinker, cells("blinker", at - 1, at + 1, 1));
            blinker.tick(1);
            isBoard("and back", blinker, cells("blinker", at, at, 0));
        }
        for (int hole : RIM) {
            Gliderwright world = ruled(full(), 256, 511);
            world.set(hole, FULL_ROW ^ 1 << hole);
            check.same("a hole at " + hole + " by 8", world.would(1), 256);
            world.table(255, 511);
            check.same("a hole at " + hole + " by less", world.would(1), 255);
            world.table(0, 1 << 7);
            check.same("stay by 7 beside the hole", world.would(1), 8);
            world.table(0, 1 << 8);
            check.same("stay by 8 elsewhere", world.would(1), 247);
        }
        check.same("none of an empty BOARD", ruled(new Gliderwright(), 510, 0).tick(1), 0);
        check.same("by none all, then by 8 none", ruled(new Gliderwright(), 1, 255).tick(2), 0);
    }

    private void firstRule() {
        document.cite("At first BIRTHS are 3, STAYS 2 and 3.");
        check.same("the RULE at first", ruleOf(new Gliderwright()), LIFE);
        check.same("as of the word", ruleOf(ruledBy("life")), LIFE);
    }

    private static Gliderwright ruledBy(String word) {
        Gliderwright world = ruled(new Gliderwright(), 511, 0);
        typed(world, word).rule();
        return world;
    }

    private void namedRules() {
        document.cite("RULES that have a word");
        check.same("life", ruleOf(ruledBy("life")), "3/23");
        check.same("seeds", ruleOf(ruledBy("seeds")), "2/");
        check.same("high", ruleOf(ruledBy("high")), "36/23");
        check.same("maze", ruleOf(ruledBy("maze")), "3/12345");
        check.same("day", ruleOf(ruledBy("day")), "3678/34678");
        for (String word : new String[] {"live", "lifes", "lif", "ay", "dayy", "none", "rule"}) {
            check.same(word, ruleOf(ruledBy(word)), "012345678/");
        }
    }

    // ---- PATTERNS

    private static int[] turned(int[] cell, int turns) {
        int[] at = cell;
        for (int turn = 0; turn < turns; turn++) {
            at = new int[] {at[1], -at[0]};
        }
        return at;
    }

    /** The CELLS of a PATTERN that is placed, not yet brought round the BOARD. */
    private static int[][] cells(String word, int row, int column, int turns) {
        int[][] cells = PATTERNS.get(word).clone();
        for (int cell = 0; cell < cells.length; cell++) {
            int[] at = turned(cells[cell], turns);
            cells[cell] = new int[] {row + at[0], column + at[1]};
        }
        return cells;
    }

    private void patterns() {
        document.cite("PATTERNS have words");
        isBoard("block", placed("block", 0, 0, 0), 0, 3, 3);
        isBoard("blinker", placed("blinker", 0, 0, 0), 0, 7);
        isBoard("glider", placed("glider", 0, 0, 0), 0, 2, 4, 7);
        isBoard("beacon", placed("beacon", 0, 0, 0), 0, 3, 1, 8, 12);
        isBoard("ship", placed("ship", 0, 0, 0), 0, 18, 1, 17, 15);
        isBoard("ship with its lowest rows and columns round", placed("ship", 14, 12, 0), 14, 1 << 13 | 1,
                1 << 12, 1 << 12 | 1, 15 << 12);
    }

    private void turns() {
        document.cite("By a TURN a CELL at the row r");
        isBoard("one turn at 0 0", placed("blinker", 0, 0, 1), 0, 1, 1, 1);
        isBoard("two turns at 0 0", placed("blinker", 0, 0, 2), 0, 1 | 1 << 15 | 1 << 14);
        isBoard("three turns at 0 0", placed("blinker", 0, 0, 3), 14, 1, 1, 1);
        isBoard("one turn of rows below 0", placed("glider", 0, 0, 1), 0, 1 << 14, 1 << 14 | 1, 1 << 14 | 1 << 15);
        for (String word : PATTERNS.keySet()) {
            for (int turns = 0; turns < 4; turns++) {
                isBoard(word + " by " + turns, placed(word, 0, 0, turns), cells(word, 0, 0, turns));
            }
        }
    }

    private void placing() {
        document.cite("To place one at a row and a column");
        for (String word : PATTERNS.keySet()) {
            for (int row : RIM) {
                for (int column : RIM) {
                    for (int turns = 0; turns < 4; turns++) {
                        String call = word + " at " + row + " " + column + " by " + turns;
                        isBoard(call, placed(word, row, column, turns), cells(word, row, column, turns));
                    }
                }
            }
            Gliderwright full = full();
            check.same(word + " on a full BOARD", typed(full, word).place(15, 15, 1), 0);
            check.same(word + " on a full BOARD, others stay", full.would(0), 256);
        }
        refused("place by -1", ARGUMENT, world -> world.place(0, 0, -1));
        refused("place by 4", ARGUMENT, world -> world.place(0, 0, 4));
        Gliderwright row = world(15, FULL_ROW, FULL_ROW);
        check.same("over rows that are full", typed(row, "glider").place(14, 14, 0), 1);
        isBoard("others stay as they are", row, 14, 1 << 15, FULL_ROW, FULL_ROW);
    }

    private void words() {
        document.cite("A word is typed letter by letter, up to 8");
        for (String word : new String[] {"a", "ab", "blinker", "abcdefgh", "glider", "maze"}) {
            Gliderwright world = typed(new Gliderwright(), word);
            world.rule();
            check.same("first behind a rule by " + word, world.type('x'), 1);
            Gliderwright other = typed(new Gliderwright(), word);
            other.place(0, 0, 0);
            check.same("first behind a place by " + word, other.type('x'), 1);
        }
        Gliderwright eight = typed(new Gliderwright(), "gliderxx");
        check.refused("the ninth letter", STATE, () -> eight.type('g'));
        check.same("a word of eight is none", eight.place(0, 0, 0), Gliderwright.NONE);
        check.same("then eight are typed anew", typed(eight, "abcdefg").type('h'), 8);
        check.same("nothing typed is none", new Gliderwright().place(0, 0, 0), Gliderwright.NONE);
        check.same("nor a rule", new Gliderwright().rule(), false);
        Gliderwright refused = typed(new Gliderwright(), "ship");
        check.refused("a place that is refused", INDEX, () -> refused.place(16, 0, 0));
        check.same("takes no word", refused.place(0, 0, 0), 9);
        changesAtMost("rule", Gliderwright::rule, Told.TYPED, Told.RULE);
        changesAtMost("place", world -> world.place(15, 15, 3), Told.TYPED, Told.ROWS);
        changesAtMost("type", world -> world.type('r'), Told.TYPED);
    }

    // ---- NATURE

    private void emptyNature() {
        document.cite("The NATURE of the BOARD for a number of TICKS is EMPTY");
        check.same("for 1", toldNature(new Gliderwright(), 1), EMPTY);
        check.same("for 64", toldNature(new Gliderwright(), 64), EMPTY);
        Gliderwright died = world(3, 1 << 3);
        check.same("ahead of dying out", toldNature(died, 64), UNKNOWN);
        died.tick(1);
        check.same("behind it", toldNature(died, 64), EMPTY);
        check.same("a single CELL is not nothing", toldNature(ruled(world(15, 1 << 15), 0, 1), 1), REST);
    }

    private static Gliderwright soup(int births, int stays, int seed, int density, int symmetry) {
        Gliderwright world = ruled(new Gliderwright(), births, stays);
        world.soup(seed, density, symmetry);
        world.tick(200);
        return world;
    }

    /** Each other CELL of some rows ALIVE. */
    private static Gliderwright combs(int births, int stays, int some) {
        Gliderwright world = ruled(new Gliderwright(), births, stays);
        for (int row = 0; row < 16; row++) {
            world.set(row, (some >> row & 1) == 1 ? 21845 : 0);
        }
        world.tick(200);
        return world;
    }

    private void period() {
        document.cite("Otherwise its PERIOD is the least p");
        check.same("a blinker for 1", toldNature(placed("blinker", 15, 15, 0), 1), UNKNOWN);
        check.same("a blinker for 2", toldNature(placed("blinker", 15, 15, 0), 2), "2 2 0 0");
        check.same("a blinker for 64", toldNature(placed("blinker", 15, 15, 0), 64), "2 2 0 0");
        check.same("a block for 64, the least", toldNature(placed("block", 0, 15, 0), 64), REST);
        check.same("a glider for 3", toldNature(placed("glider", 0, 0, 0), 3), UNKNOWN);
        check.same("a glider for 4", toldNature(placed("glider", 0, 0, 0), 4), "3 4 1 1");
        check.same("a glider for 64, the least", toldNature(placed("glider", 0, 0, 0), 64), "3 4 1 1");
        Gliderwright turns = soup(328, 380, 50656, 40, 2);
        check.same("one of the period 64 for 63", toldNature(turns, 63), UNKNOWN);
        check.same("one of the period 64 for 64", toldNature(turns, 64), "2 64 0 0");
        Gliderwright travels = combs(244, 401, 17026);
        check.same("one that is 8 rows on behind 64 for 63", toldNature(travels, 63), UNKNOWN);
        check.same("one that is 8 rows on behind 64 for 64", toldNature(travels, 64), "3 64 8 0");
        Gliderwright longer = combs(204, 82, 65304);
        check.same("one of the period 65", toldNature(longer, 64), UNKNOWN);
        int[] before = rows(longer);
        longer.tick(65);
        for (int row = 0; row < 16; row++) {
            check.same("which comes behind 65, row " + row, longer.row((row + 8) % 16), before[row]);
        }
    }

    private void firstShift() {
        check.same("one row and column less", toldNature(placed("glider", 8, 8, 2), 64), "3 4 15 15");
        check.same("round the corner", toldNature(placed("glider", 0, 0, 2), 64), "3 4 15 15");
        check.same("one row less", toldNature(placed("glider", 15, 15, 3), 64), "3 4 15 1");
        check.same("one column less", toldNature(placed("glider", 15, 0, 1), 64), "3 4 1 15");
        Gliderwright lines = ruled(new Gliderwright(), 1 << 6, 0);
        for (int row = 0; row < 16; row += 2) {
            lines.set(row, FULL_ROW);
        }
        check.same("of many shifts the first by rows", toldNature(lines, 64), "3 1 1 0");
        check.same("of many shifts the first by columns", toldNature(squares(1 << 4, 0), 64), "3 1 0 1");
        check.same("of all shifts none", toldNature(ruled(full(), 0, 256), 64), REST);
    }

    private void kinds() {
        document.cite("It is a REST, if the PERIOD is 1");
        check.same("a block", toldNature(placed("block", 15, 15, 0), 1), REST);
        check.same("all of the BOARD", toldNature(ruled(full(), 0, 256), 1), REST);
        check.same("a blinker", placed("blinker", 0, 14, 0).nature(2, 0), Gliderwright.TURNER);
        check.same("all and nothing", toldNature(ruled(full(), 1, 0), 64), "2 2 0 0");
        check.same("a traveller by 1", squares(1 << 4, 0).nature(1, 0), Gliderwright.TRAVELLER);
        check.same("its period", squares(1 << 4, 0).nature(64, 1), 1);
        check.same("by rows alone", toldNature(placed("ship", 0, 0, 1), 4), "3 4 14 0");
        check.same("by columns alone", toldNature(placed("ship", 0, 0, 0), 4), "3 4 0 14");
        check.same("one that dies out at once", toldNature(world(0, 1), 64), UNKNOWN);
        check.same("two that die out later", toldNature(world(0, 73), 64), UNKNOWN);
        check.same("what comes to be a block", toldNature(world(0, 3, 1), 64), UNKNOWN);
        for (int row = 0; row < 16; row++) {
            Gliderwright trodden = ruled(world(row, FULL_ROW, 96, FULL_ROW), 1 << 7, 1 << 2 | 1 << 3 | 1 << 4 | 1 << 5);
            check.same("all rows but one as before, as many CELLS in that one", toldNature(trodden, 1), UNKNOWN);
            trodden.tick(1);
            isBoard("which comes from " + row, trodden, row, FULL_ROW, 144, FULL_ROW);
        }
        Gliderwright dying = ruled(world(0, 1), 0, 0);
        check.same("no RULE at all", toldNature(dying, 1), UNKNOWN);
        check.same("fewer that are left", toldNature(ruled(world(0, 3 | 1 << 9), 0, 2), 1), UNKNOWN);
    }

    private void emptyWhateverTheRule() {
        document.cite("What is not ALIVE now is EMPTY");
        check.same("births by none, all stay", toldNature(ruled(new Gliderwright(), 1, 511), 64), EMPTY);
        check.same("births by none, none stay", toldNature(ruled(new Gliderwright(), 1, 0), 2), EMPTY);
        check.same("births by all", toldNature(ruled(new Gliderwright(), 511, 511), 1), EMPTY);
        Gliderwright blinking = ruled(full(), 1, 0);
        blinking.tick(1);
        check.same("every other time nothing", toldNature(blinking, 64), EMPTY);
    }

    // ---- CANON, CATALOG

    private void isCanon(String call, Gliderwright world, int first, int... rows) {
        check.same(call, toldCanon(world), Arrays.toString(lone(first, rows)));
    }

    private void canon() {
        document.cite("The CANON of the BOARD is the least");
        isCanon("nothing", new Gliderwright(), 0);
        int[] all = new int[16];
        Arrays.fill(all, FULL_ROW);
        isCanon("all", full(), 0, all);
        for (int row = 0; row < 16; row++) {
            for (int column = 0; column < 16; column++) {
                isCanon("a CELL at " + row + " " + column, withCells(new int[] {row, column}), 15, 1);
            }
        }
        for (int at : RIM) {
            for (int turns = 0; turns < 4; turns++) {
                isCanon("glider", placed("glider", at, 15 - at, turns), 13, 1, 2, 32771);
                isCanon("hook", withCells(mirroredHook(at, turns, false)), 14, 1, 7);
                isCanon("hook mirrored", withCells(mirroredHook(at, turns, true)), 14, 1, 7);
            }
        }
        Gliderwright last = withCells(new int[] {0, 0}, new int[] {0, 15});
        isCanon("two beside each other, round the BOARD", last, 15, 3);
        isCanon("two above each other, round the BOARD", world(15, 4, 4), 15, 3);
        isCanon("two as far apart as can be", withCells(new int[] {3, 3}, new int[] {11, 11}), 7, 1, 0, 0, 0, 0, 0,
                0, 0, 256);
        isCanon("a whole row", world(6, FULL_ROW), 15, FULL_ROW);
        isCanon("a whole column", world(0, columnOf(32768)), 15, FULL_ROW);
        isCanon("whatever the RULE", ruled(placed("glider", 8, 8, 0), 511, 511), 13, 1, 2, 32771);
        isCanon("and by no RULE", ruled(placed("glider", 8, 8, 0), 0, 0), 13, 1, 2, 32771);
        Gliderwright hole = full();
        hole.set(15, FULL_ROW - 1);
        all[0] = FULL_ROW >> 1;
        isCanon("all but one", hole, 0, all);
    }

    private static int[] columnOf(int bits) {
        int[] rows = new int[16];
        Arrays.fill(rows, bits);
        return rows;
    }

    private static int[][] mirroredHook(int at, int turns, boolean isMirrored) {
        int[][] hook = {{0, 0}, {0, 1}, {0, 2}, {1, 2}};
        for (int cell = 0; cell < hook.length; cell++) {
            int[] turned = turned(hook[cell], turns);
            hook[cell] = new int[] {at + turned[0], at + (isMirrored ? -turned[1] : turned[1])};
        }
        return hook;
    }

    /** The first rows of several ways are the same here, so that a later one tells which is the least. */
    private void canonRowsInOrder() {
        isCanon("corner", world(4, 3, 1), 14, 1, 3);
        isCanon("corner the other way", world(15, 2, 3), 14, 1, 3);
        isCanon("one two rows behind one", world(5, 1, 0, 2), 14, 1, 4);
        isCanon("one two rows ahead of one", world(5, 2, 0, 1), 14, 1, 4);
        isCanon("two, then one aside", world(15, 1, 1, 0, 2), 14, 1, 12);
        isCanon("one aside, then two", world(0, 4, 0, 2, 2), 14, 1, 12);
    }

    private void catalog() {
        document.cite("The CATALOG has entries, numbered from 0, up to 20");
        Gliderwright world = new Gliderwright();
        for (int entry = 0; entry < 20; entry++) {
            int one = entry;
            check.refused("entry " + entry + " ahead of it", INDEX, () -> world.recorded(one));
            world.set(3, RECORDED[entry]);
            check.same("record " + entry, world.record(), entry);
            check.same("recorded " + entry, world.recorded(entry), 1);
        }
        world.set(3, RECORDED[20]);
        check.refused("the entry behind 20", STATE, world::record);
        check.refused("recorded 20", INDEX, () -> world.recorded(20));
        check.same("known then", world.known(), Gliderwright.NONE);
        for (int entry = 19; entry >= 0; entry--) {
            world.set(3, RECORDED[entry]);
            check.same("known " + entry, world.known(), entry);
            check.same("record again " + entry, world.record(), entry);
            check.same("recorded again " + entry, world.recorded(entry), 2);
        }
    }

    // ---- OBJECTS

    private void isObject(Gliderwright world, int object, int lowest, int size) {
        check.same("the lowest of " + object, world.object(object, true), lowest);
        check.same("the size of " + object, world.object(object, false), size);
    }

    private void objects() {
        document.cite("An OBJECT is all ALIVE CELLS that hang together");
        check.same("of nothing", new Gliderwright().objects(), 0);
        check.same("of all", full().objects(), 1);
        isObject(full(), 0, 0, 256);
        for (int row = 0; row < 16; row++) {
            for (int column = 0; column < 16; column++) {
                Gliderwright around = withCells(beside(row, column));
                check.same("those beside " + row + " " + column, around.objects(), 1);
                check.same("their size", around.object(0, false), 8);
                for (int[] next : new int[][] {{1, 1}, {1, -1}, {1, 0}, {0, 1}}) {
                    int[] here = {row, column};
                    int[] near = {row + next[0], column + next[1]};
                    int[] far = {row + 2 * next[0], column + 2 * next[1]};
                    String at = " at " + row + " " + column;
                    check.same("two beside each other" + at, withCells(here, near).objects(), 1);
                    check.same("two that are one apart" + at, withCells(here, far).objects(), 2);
                }
            }
        }
        check.same("a row of each other CELL", world(0, 21845).objects(), 8);
        check.same("all squares by their corners", squares(0, 0).objects(), 1);
        check.same("rows between empty ones", world(0, FULL_ROW, 0, FULL_ROW, 0, FULL_ROW).objects(), 3);
        check.same("rows round the BOARD", world(15, FULL_ROW, FULL_ROW, 0, FULL_ROW).objects(), 2);
        Gliderwright most = new Gliderwright();
        for (int row = 1; row < 16; row += 2) {
            most.set(row, 43690);
        }
        check.same("as many as can be", most.objects(), 64);
        isObject(most, 63, 255, 1);
    }

    private void objectsInOrder() {
        Gliderwright corner = world(15, 1 | 1 << 15, 1 | 1 << 15);
        isObject(corner, 0, 0, 4);
        Gliderwright sides = world(15, 1 << 3, 1 << 2, 0, 1 << 15, 1, 0, 1 << 8, 0, 1 << 7, 1 << 6, 1 << 7);
        check.same("how many", sides.objects(), 4);
        isObject(sides, 0, 2, 2);
        isObject(sides, 1, 2 * 16 + 15, 2);
        isObject(sides, 2, 5 * 16 + 8, 1);
        isObject(sides, 3, 7 * 16 + 7, 3);
        check.refused("behind the last", INDEX, () -> sides.object(4, true));
        Gliderwright round = world(4, 1 | 1 << 15 | 1 << 8, 0, 1 << 1);
        isObject(round, 0, 4 * 16, 2);
        isObject(round, 1, 4 * 16 + 8, 1);
        isObject(round, 2, 6 * 16 + 1, 1);
        Gliderwright behind = world(15, FULL_ROW - 2, 0, 2);
        isObject(behind, 0, 16 + 1, 1);
        isObject(behind, 1, 15 * 16, 15);
    }

    // ---- SOUPS

    private void soupRanges() {
        document.cite("A SOUP has a seed, 0 to 65535");
        for (int symmetry = 0; symmetry <= 2; symmetry++) {
            for (int seed : new int[] {0, 65535}) {
                check.same("nothing", full().soup(seed, 0, symmetry), 0);
                check.same("all", new Gliderwright().soup(seed, 100, symmetry), 256);
                isSoup(seed, 1, symmetry);
                isSoup(seed, 99, symmetry);
            }
        }
        for (int wrong : new int[] {-1, 65536, MIN, MAX}) {
            refused("soup of the seed " + wrong, ARGUMENT, world -> world.soup(wrong, 50, 1));
        }
        for (int wrong : new int[] {-1, 101, MIN, MAX}) {
            refused("soup of the density " + wrong, ARGUMENT, world -> world.soup(1, wrong, 1));
        }
        for (int wrong : new int[] {-1, 3, MIN, MAX}) {
            refused("soup of the symmetry " + wrong, ARGUMENT, world -> world.soup(1, 50, wrong));
        }
    }

    /** The SOUP with each number that is drawn put where the document wants it, CELL by CELL. */
    private void isSoup(int seed, int density, int symmetry) {
        boolean[][] drawn = new boolean[16][16];
        int now = seed;
        for (int row = 0; row < (symmetry == 2 ? 8 : 16); row++) {
            for (int column = 0; column < (symmetry == 0 ? 16 : 8); column++) {
                now = (now * 1103 + 12345) % 65536;
                drawn[row][column] = now % 100 < density;
            }
        }
        Gliderwright world = new Gliderwright();
        String call = "soup " + seed + " " + density + " " + symmetry;
        int answer = world.soup(seed, density, symmetry);
        int alive = 0;
        for (int row = 0; row < 16; row++) {
            int bits = 0;
            for (int column = 0; column < 16; column++) {
                boolean isAlive = drawn[symmetry == 2 && row > 7 ? 15 - row : row][
                        symmetry > 0 && column > 7 ? 15 - column : column];
                bits |= isAlive ? 1 << column : 0;
                alive += isAlive ? 1 : 0;
            }
            check.same(call + ", row " + row, world.row(row), bits);
        }
        check.same(call, answer, alive);
    }

    private static int seedThatBecomes(int wanted) {
        for (int seed = 0; seed < 65536; seed++) {
            if ((seed * 1103 + 12345) % 65536 == wanted) {
                return seed;
            }
        }
        throw new IllegalStateException("each number comes of some seed");
    }

    private void drawnCells() {
        document.cite("The CELLS that are drawn, by rows, then by columns");
        for (int seed : new int[] {0, 1, 32767, 32768, 65534, 65535}) {
            for (int density : new int[] {0, 1, 2, 50, 98, 99, 100}) {
                for (int symmetry = 0; symmetry <= 2; symmetry++) {
                    isSoup(seed, density, symmetry);
                }
            }
        }
    }

    private void drawnByTheSeed() {
        int[] drawn = {0, 1, 99, 100, 199, 200, 65500, 65499, 65535};
        for (int wanted : drawn) {
            int seed = seedThatBecomes(wanted);
            for (int symmetry = 0; symmetry <= 2; symmetry++) {
                Gliderwright world = new Gliderwright();
                world.soup(seed, wanted % 100, symmetry);
                check.same("drawn " + wanted + ", not less than the density", world.row(0) & 1, 0);
                world.soup(seed, wanted % 100 + 1, symmetry);
                check.same("drawn " + wanted + ", less than the density", world.row(0) & 1, 1);
            }
        }
    }

    private void mirroredCells() {
        document.cite("For 1 and 2 the column c above 7");
        Gliderwright one = new Gliderwright();
        one.soup(4711, 37, 1);
        Gliderwright two = new Gliderwright();
        two.soup(4711, 37, 2);
        Gliderwright none = new Gliderwright();
        none.soup(4711, 37, 0);
        for (int row = 0; row < 16; row++) {
            for (int column = 0; column < 8; column++) {
                check.same("column by 1", one.row(row) >> column & 1, one.row(row) >> 15 - column & 1);
                check.same("column by 2", two.row(row) >> column & 1, two.row(row) >> 15 - column & 1);
            }
            check.same("row by 2", two.row(row), two.row(15 - row));
        }
        check.same("rows by 1 are drawn each", one.row(7) == one.row(8) && one.row(0) == one.row(15), false);
        check.same("columns by 0 are drawn each", (none.row(0) & 255) == Integer.reverse(none.row(0)) >>> 16, false);
        check.same("the first half of 1 and 2 is the same", one.row(7), two.row(7));
    }

    // ---- BLOCKS, MARKS

    private void firstPhase() {
        document.cite("The PHASE is 0 at first.");
        check.same("of a new one", phaseOf(new Gliderwright()), 0);
        check.same("the other one then", new Gliderwright().blocks(1, true), 1);
        Gliderwright world = world(0, 1);
        world.blocks(1, true);
        isBoard("even squares first", world, 1, 2);
    }

    /** The opposite CELL in the square of 2 by 2 that a CELL is in by the PHASE. */
    private static int[] opposite(int row, int column, int phase) {
        return new int[] {row % 2 == phase ? row + 1 : row - 1, column % 2 == phase ? column + 1 : column - 1};
    }

    private void blockPlaces() {
        document.cite("BLOCKS are the squares of 2 by 2 CELLS");
        for (int row = 0; row < 16; row++) {
            for (int column = 0; column < 16; column++) {
                Gliderwright even = withCells(new int[] {row, column});
                even.blocks(1, true);
                isBoard("from " + row + " " + column + " in the PHASE 0", even, new int[][] {opposite(row, column, 0)});
                Gliderwright odd = withCells(new int[] {row, column});
                odd.blocks(1, false);
                isBoard("from " + row + " " + column + " in the PHASE 1", odd, new int[][] {opposite(row, column, 1)});
            }
        }
        Gliderwright corner = world(15, 1 << 15);
        corner.blocks(1, false);
        isBoard("from 15 15 to 0 0", corner, 0, 1);
        Gliderwright side = world(0, 1 << 15);
        side.blocks(1, false);
        isBoard("from 0 15 to 15 0", side, 15, 1);
    }

    private void blockKinds() {
        document.cite("A BLOCK with one ALIVE CELL");
        for (int block = 0; block < 16; block++) {
            int opposite = Integer.reverse(block) >>> 28;
            boolean isOne = Integer.bitCount(block) == 1;
            boolean isCross = block == 6 || block == 9;
            int due = isOne ? opposite : isCross ? 15 - block : block;
            for (int at = 0; at < 16; at++) {
                boolean isEven = at % 2 == 0;
                Gliderwright world = new Gliderwright();
                putSquare(world, at, block);
                world.blocks(1, isEven);
                Gliderwright expected = new Gliderwright();
                putSquare(expected, at, due);
                check.same("the square " + block + " at " + at, told(world), told(expected));
            }
        }
        check.same("of nothing comes nothing", told(going(new Gliderwright(), 200, true)), told(new Gliderwright()));
        check.same("all stay", told(going(full(), 200, true)), told(full()));
    }

    private static void putSquare(Gliderwright world, int at, int block) {
        int behind = (at + 1) % 16;
        world.set(at, (block & 1) << at | (block >> 1 & 1) << behind);
        world.set(behind, (block >> 2 & 1) << at | (block >> 3 & 1) << behind);
    }

    private static Gliderwright going(Gliderwright world, int steps, boolean isForward) {
        world.blocks(steps, isForward);
        return world;
    }

    private void forwardAndBack() {
        document.cite("To go forward is to do that with all BLOCKS of the PHASE");
        isBoard("forward from 0", going(world(4, 1 << 4), 1, true), 5, 1 << 5);
        isBoard("back from 0", going(world(4, 1 << 4), 1, false), 3, 1 << 3);
        isBoard("two forward", going(world(4, 1 << 4), 2, true), 6, 1 << 6);
        isBoard("two back", going(world(4, 1 << 4), 2, false), 2, 1 << 2);
        isBoard("forward, then back", going(going(world(4, 1 << 4), 1, true), 1, false), 4, 1 << 4);
        isBoard("back, then forward", going(going(world(4, 1 << 4), 1, false), 1, true), 4, 1 << 4);
        isBoard("round the BOARD", going(world(15, 1 << 15), 16, false), 15, 1 << 15);
        isBoard("200 forward", going(world(0, 1), 200, true), 8, 1 << 8);
        isBoard("200 back", going(world(0, 1), 200, false), 8, 1 << 8);
        for (int steps : new int[] {1, 2, 3, 16, 199, 200}) {
            Gliderwright world = new Gliderwright();
            world.soup(steps, 45, 0);
            String before = told(world);
            check.same("the PHASE behind " + steps, world.blocks(steps, true), steps % 2);
            check.same("something changed by " + steps, told(world).equals(before), false);
            check.same("the PHASE back again", world.blocks(steps, false), 0);
            check.same("the BOARD back again", told(world), before);
            check.same("the PHASE behind " + steps + " back", world.blocks(steps, false), steps % 2);
            check.same("the PHASE on again", world.blocks(steps, true), 0);
            check.same("the BOARD on again", told(world), before);
        }
    }

    private void phaseStays() {
        document.cite("Nothing else changes the PHASE");
        changesAtMost("set", world -> world.set(15, 1), Told.ROWS);
        changesAtMost("tick", world -> world.tick(200), Told.ROWS);
        changesAtMost("soup", world -> world.soup(3, 30, 2), Told.ROWS);
        changesAtMost("table", world -> ruled(world, 4, 0).known(), Told.RULE);
        changesAtMost("record", Gliderwright::record, Told.CATALOG);
        changesAtMost("mark", Gliderwright::mark, Told.MARKS);
        changesAtMost("rule", Gliderwright::rule, Told.RULE, Told.TYPED);
        changesAtMost("place", world -> world.place(0, 0, 0), Told.ROWS, Told.TYPED);
        changesAtMost("type", world -> world.type('r'), Told.TYPED);
        changesAtMost("blocks", world -> world.blocks(2, true), Told.ROWS);
        changesAtMost("blocks", world -> world.blocks(1, false), Told.ROWS, Told.PHASE);
        changesAtMost("what is asked", TermsEdgesTest::askAll);
        Gliderwright world = new Gliderwright();
        world.blocks(1, true);
        world.mark();
        world.blocks(1, true);
        check.same("the PHASE ahead of a MARK", phaseOf(world), 0);
        world.undo();
        check.same("the PHASE of a MARK", phaseOf(world), 1);
    }

    private static Object askAll(Gliderwright world) {
        int sum = world.row(0) + world.would(200) + world.canon(0) + world.known() + world.objects();
        for (int what = 0; what <= 3; what++) {
            sum += world.nature(64, what);
        }
        Check.answerOf(() -> world.recorded(0));
        Check.answerOf(() -> world.object(0, true));
        Check.answerOf(() -> world.object(0, false));
        return sum + world.ring(30, 12, 1, 9) + world.parents(30, 12, 1) + world.parentsAnew(30, 12, 1)
                + world.parent(30, 12, 1);
    }

    private void marks() {
        document.cite("MARKS keep the BOARD and the PHASE, up to 8");
        Gliderwright world = new Gliderwright();
        String[] kept = new String[8];
        for (int mark = 0; mark < 8; mark++) {
            world.soup(mark, 10 * mark + 10, 0);
            world.blocks(1, true);
            if (mark % 3 == 0) {
                world.blocks(1, true);
            }
            kept[mark] = told(world) + phaseOf(world);
            check.same("mark " + mark, world.mark(), mark + 1);
        }
        check.refused("a ninth", STATE, world::mark);
        world.soup(99, 30, 1);
        for (int mark = 7; mark >= 0; mark--) {
            check.same("undo " + mark, world.undo(), mark);
            check.same("the BOARD and the PHASE of " + mark, told(world) + phaseOf(world), kept[mark]);
        }
        check.refused("behind the first", STATE, world::undo);
        changesAtMost("undo", Gliderwright::undo, Told.ROWS, Told.PHASE, Told.MARKS);
        Gliderwright stays = Start.BUSY.world();
        stays.mark();
        ruled(stays, 4, 0).record();
        stays.type('r');
        stays.undo();
        check.same("what is typed stays", stays.place(0, 0, 0) >= 0, true);
        check.same("the CATALOG stays", stays.recorded(3), 1);
        check.same("the RULE stays", ruleOf(stays), "2/");
    }

    // ---- rings

    private void rings() {
        document.cite("A ring has 3 to 12 CELLS");
        Gliderwright world = new Gliderwright();
        for (int many = 3; many <= 12; many++) {
            int all = (1 << many) - 1;
            check.same("nothing of " + many, world.ring(204, many, 0, 1), 0);
            check.same("all of " + many, world.ring(204, many, all, 1), all);
            check.same("the last of " + many, world.ring(204, many, 1 << many - 1, 1000), 1 << many - 1);
        }
        for (int many : new int[] {2, 13, 0, -1, 31, 32, 33, 35, 44, MIN, MAX}) {
            refused("a ring of " + many, ARGUMENT, one -> one.ring(204, many, 0, 0));
        }
    }

    private void ringNumbers() {
        document.cite("By a number from 0 to 255 each CELL is ALIVE next");
        for (int many = 3; many <= 12; many++) {
            Gliderwright world = new Gliderwright();
            int all = (1 << many) - 1;
            int last = 1 << many - 1;
            check.same("by 0", world.ring(0, many, all, 1), 0);
            check.same("by 255", world.ring(255, many, 0, 1), all);
            check.same("by the one before, from the last to 0", world.ring(240, many, last, 1), 1);
            check.same("by the one before, from 0 on", world.ring(240, many, 1, 1), 2);
            check.same("by the one behind, from 0 to the last", world.ring(170, many, 1, 1), last);
            check.same("by the one behind, from the last", world.ring(170, many, last, 1), last >> 1);
            check.same("by none of three", world.ring(1, many, 0, 1), all);
            check.same("by all three", world.ring(128, many, all, 1), all);
            check.same("by all three, one is missing", world.ring(128, many, all - 1, 1), all - 1 - 2 - last);
            for (int how = 0; how < 8; how++) {
                check.same("the power " + how + " of " + many, world.ring(1 << how, many, 0, 1), how == 0 ? all : 0);
            }
        }
        int[] ofOne = {0, 1 << 4, 1, 0, 2, 0, 0, 0};
        int[] ofTwo = {0, 1 << 4, 0, 1, 4, 0, 2, 0};
        int[] ofGap = {0, 1 << 4, 1 | 4, 0, 8, 2, 0, 0};
        for (int how = 1; how < 8; how++) {
            check.same("of one, by " + how, new Gliderwright().ring(1 << how, 5, 1, 1), ofOne[how]);
            check.same("of two, by " + how, new Gliderwright().ring(1 << how, 5, 3, 1), ofTwo[how]);
            check.same("of two apart, by " + how, new Gliderwright().ring(1 << how, 5, 5, 1), ofGap[how]);
        }
    }

    private void ringParents() {
        document.cite("A parent of a ring is one of as many CELLS");
        for (int many = 3; many <= 12; many += 3) {
            Gliderwright world = new Gliderwright();
            int all = (1 << many) - 1;
            check.same("all are parents of 0 by 0", world.parents(0, many, 0), all + 1);
            check.same("none of another by 0", world.parents(0, many, 1), 0);
            check.same("all are parents of all by 255", world.parents(255, many, all), all + 1);
            check.same("none of less by 255", world.parents(255, many, all - 1), 0);
            check.same("each is its own by 204", world.parents(204, many, all), 1);
            check.same("which one", world.parent(204, many, all), all);
            check.same("the other one by 51", world.parent(51, many, 0), all);
        }
        for (int number = 0; number < 256; number++) {
            Gliderwright world = new Gliderwright();
            for (int many = 3; many <= 5; many++) {
                parentsOfAll(world, number, many);
            }
        }
    }

    private void parentsOfAll(Gliderwright world, int number, int many) {
        int[] parents = new int[1 << many];
        int[] least = new int[1 << many];
        Arrays.fill(least, Gliderwright.NONE);
        for (int ring = (1 << many) - 1; ring >= 0; ring--) {
            int child = 0;
            for (int cell = 0; cell < many; cell++) {
                int how = 4 * (ring >> (cell + many - 1) % many & 1) + 2 * (ring >> cell & 1)
                        + (ring >> (cell + 1) % many & 1);
                child |= (number >> how & 1) << cell;
            }
            parents[child]++;
            least[child] = ring;
        }
        for (int ring = 0; ring < 1 << many; ring++) {
            String told = number + " " + many + " " + ring;
            check.same("parents of " + told, world.parents(number, many, ring), parents[ring]);
            check.same("parentsAnew of " + told, world.parentsAnew(number, many, ring), parents[ring]);
            check.same("parent of " + told, world.parent(number, many, ring), least[ring]);
        }
    }

    private void remarks() {
        document.cite("The constants: `NONE = -1`: None.");
        check.same("NONE", Gliderwright.NONE, -1);
        document.cite("`EMPTY = 0, REST = 1, TURNER = 2, TRAVELLER = 3, UNKNOWN = 4`: NATURES.");
        check.same("EMPTY", Gliderwright.EMPTY, 0);
        check.same("REST", Gliderwright.REST, 1);
        check.same("TURNER", Gliderwright.TURNER, 2);
        check.same("TRAVELLER", Gliderwright.TRAVELLER, 3);
        check.same("UNKNOWN", Gliderwright.UNKNOWN, 4);
        document.pass("Ahead of the calls `type`");
        document.pass("Ahead of the calls `tick`");
        document.pass("Ahead of the calls `canon`");
        document.pass("Ahead of the calls `soup`");
        document.pass("Ahead of the calls `ring`");
    }
}
