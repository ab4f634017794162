import java.io.IOException;
import java.util.Arrays;

/** The promises of the document, sentence by sentence, at the boundaries that they name. */
public final class PromisesEdgesTest extends Worlds {
    private static final int[] OUT_OF_INT = {-1, MIN, MAX};

    private final Document document = new Document(check);

    private PromisesEdgesTest() throws IOException {
    }

    public static void main(String[] args) throws IOException {
        PromisesEdgesTest all = new PromisesEdgesTest();
        all.newObject();
        all.type();
        all.rule();
        all.table();
        all.place();
        all.placeRefused();
        all.set();
        all.row();
        all.tick();
        all.would();
        all.nature();
        all.canon();
        all.record();
        all.recorded();
        all.known();
        all.objects();
        all.object();
        all.soup();
        all.blocks();
        all.mark();
        all.undo();
        all.ring();
        all.parents();
        all.parentsAnew();
        all.parent();
        all.document.end("Gliderwright", "What it is", "The public face", "Terms", "PATTERNS", "BLOCKS", "Rings",
                "Not promised");
        all.check.end();
    }

    // ---- helpers

    /** A call with a number put in where the range is looked at. */
    private interface Numbered {
        Object on(Gliderwright world, int number);
    }

    private void within(String call, int least, int most, Numbered deed) {
        for (Start start : Start.values()) {
            for (int number : new int[] {least, most}) {
                Object answer = Check.answerOf(() -> deed.on(start.world(), number));
                check.same(call + " takes " + number + " of one that is " + start, answer instanceof String, false);
            }
        }
    }

    /** One below the range, one above it, and the ends of all numbers, are refused and change nothing. */
    private void without(String call, Class<? extends RuntimeException> due, int least, int most, Numbered deed) {
        for (int number : new int[] {least - 1, most + 1, MIN, MAX}) {
            refused(call + " of " + number, due, world -> deed.on(world, number));
        }
    }

    private static Gliderwright soup(int seed, int density) {
        Gliderwright world = new Gliderwright();
        world.soup(seed, density, 0);
        return world;
    }

    // ---- promise 1

    private void newObject() {
        document.under("Promise 1");
        document.cite("`Gliderwright()`: An empty BOARD.");
        Gliderwright world = new Gliderwright();
        isBoard("rows", world, 0);
        check.same("how many are ALIVE", world.would(0), 0);
        check.same("OBJECTS", world.objects(), 0);
        check.same("NATURE", world.nature(1, 0), Gliderwright.EMPTY);
        check.same("the first letter", world.type('b'), 1);
        check.same("the CATALOG", world.known(), Gliderwright.NONE);
        check.refused("an entry", INDEX, () -> world.recorded(0));
        check.refused("a MARK", STATE, world::undo);
        check.same("the PHASE", phaseOf(world), 0);
        check.same("the RULE", ruleOf(world), LIFE);
        Start.FULL.world();
        check.same("one made behind another", Told.of(new Gliderwright()), Told.of(Start.NEW.world()));
        isBoard("rows of one made behind another", new Gliderwright(), 0);
    }

    // ---- promises 2 to 4

    private void type() {
        document.under("Promise 2");
        document.cite("`int type(char letter)");
        Gliderwright world = new Gliderwright();
        for (char letter : "glider".toCharArray()) {
            world.type(letter);
            world.tick(1);
            world.set(0, 0);
        }
        check.same("letters among other calls", world.place(15, 15, 0), 5);
        document.cite("- `letter`: a to z");
        for (char letter = 'a'; letter <= 'z'; letter++) {
            check.same("the first, " + letter, new Gliderwright().type(letter), 1);
            check.same("the eighth, " + letter, typed(new Gliderwright(), "zzzzaaa").type(letter), 8);
        }
        document.cite("Returns how many are typed then.");
        Gliderwright counted = new Gliderwright();
        for (int many = 1; many <= 8; many++) {
            check.same("the letter " + many, counted.type('q'), many);
        }
        counted.rule();
        check.same("behind a word", counted.type('q'), 1);
        document.cite("Throws `IllegalArgumentException`");
        for (int letter = 0; letter <= 65535; letter++) {
            char wrong = (char) letter;
            if (letter < 'a' || letter > 'z') {
                check.refused("type " + letter, ARGUMENT, () -> new Gliderwright().type(wrong));
            }
        }
        for (char wrong : new char[] {'`', '{', 'A', 'Z', '0', 0, (char) ('a' + 256), (char) 65535}) {
            refused("type " + (int) wrong, ARGUMENT, one -> one.type(wrong));
        }
        document.cite("Throws `IllegalStateException` if 8 are typed");
        Gliderwright eight = typed(new Gliderwright(), "gliderx");
        check.same("the eighth", eight.type('x'), 8);
        check.refused("the ninth", STATE, () -> eight.type('a'));
        check.refused("and again", STATE, () -> eight.type('z'));
        check.same("none is placed", eight.place(0, 0, 0), Gliderwright.NONE);
        check.same("then again the first", eight.type('z'), 1);
        refused("type with 8", STATE, Start.FULL, one -> one.type('a'));
    }

    private void rule() {
        document.under("Promise 3");
        document.cite("`boolean rule()`");
        String[][] rules = {{"life", "3/23"}, {"seeds", "2/"}, {"high", "36/23"}, {"maze", "3/12345"},
            {"day", "3678/34678"}};
        for (String[] rule : rules) {
            Gliderwright world = ruled(typed(new Gliderwright(), rule[0]), 511, 511);
            check.same(rule[0], world.rule(), true);
            check.same("typed behind " + rule[0], world.type('a'), 1);
            check.same("the RULE " + rule[0], ruleOf(world), rule[1]);
        }
        String[] none = {"", "l", "lif", "lifee", "elif", "efil", "seed", "seedss", "higher", "mazes", "da",
            "block", "blinker", "glider", "beacon", "ship", "lifelife", "abcdefgh"};
        for (String word : none) {
            Gliderwright world = ruled(typed(new Gliderwright(), word), 1 << 8, 1);
            check.same("rule by " + word, world.rule(), false);
            check.same("typed behind " + word, world.type('a'), 1);
            check.same("the RULE stays by " + word, ruleOf(world), "8/0");
        }
        check.same("by nothing, at first", ruleOf(stayed(new Gliderwright())), LIFE);
        changesAtMost("rule by no word", Gliderwright::rule, Told.TYPED);
    }

    private static Gliderwright stayed(Gliderwright world) {
        world.rule();
        return world;
    }

    private void table() {
        document.under("Promise 4");
        document.cite("`void table(int births, int stays)");
        Gliderwright twice = ruled(ruled(new Gliderwright(), 511, 511), 0, 0);
        check.same("the later one alone", ruleOf(twice), "/");
        check.same("behind a word", ruleOf(ruled(stayed(typed(new Gliderwright(), "day")), 2, 4)), "1/2");
        changesAtMost("table", world -> ruled(world, 1, 511).row(0), Told.RULE);
        document.cite("- `births`: 0 to 511");
        for (int count = 0; count <= 8; count++) {
            check.same("births " + count, ruleOf(ruled(new Gliderwright(), 1 << count, 0)), count + "/");
        }
        check.same("births 0", ruleOf(ruled(new Gliderwright(), 0, 12)), "/23");
        check.same("births 511", ruleOf(ruled(new Gliderwright(), 511, 12)), "012345678/23");
        document.cite("- `stays`: 0 to 511");
        for (int count = 0; count <= 8; count++) {
            check.same("stays " + count, ruleOf(ruled(new Gliderwright(), 0, 1 << count)), "/" + count);
        }
        check.same("stays 0", ruleOf(ruled(new Gliderwright(), 8, 0)), "3/");
        check.same("stays 511", ruleOf(ruled(new Gliderwright(), 8, 511)), "3/012345678");
        document.cite("Throws `IllegalArgumentException` if births or stays");
        without("table, births", ARGUMENT, 0, 511, (world, births) -> ruled(world, births, 511).row(0));
        without("table, stays", ARGUMENT, 0, 511, (world, stays) -> ruled(world, 0, stays).row(0));
        refused("table, both", ARGUMENT, world -> ruled(world, 512, -1).row(0));
    }

    // ---- promises 5 to 7

    private void place() {
        document.under("Promise 5");
        document.cite("`int place(int row, int column, int turns)");
        check.same("the five words", placedBy("block") + placedBy("blinker") + placedBy("glider") + placedBy("beacon")
                + placedBy("ship"), 4 + 3 + 5 + 6 + 9);
        changesAtMost("place", world -> world.place(0, 0, 0), Told.TYPED, Told.ROWS);
        document.cite("- `row`: 0 to 15");
        within("place, row", 0, 15, (world, row) -> world.place(row, 8, 0));
        document.cite("- `column`: 0 to 15");
        within("place, column", 0, 15, (world, column) -> world.place(8, column, 0));
        for (int at = 0; at < 16; at++) {
            isBoard("block at " + at, placed("block", at, 15 - at, 0),
                    new int[][] {{at, 15 - at}, {at + 1, 15 - at}, {at, 16 - at}, {at + 1, 16 - at}});
            isBoard("blinker at " + at, placed("blinker", 15 - at, at, 0),
                    new int[][] {{15 - at, at}, {15 - at, at + 1}, {15 - at, at + 2}});
        }
        document.cite("- `turns`: 0 to 3");
        within("place, turns", 0, 3, (world, turns) -> world.place(8, 8, turns));
        isBoard("by 0", placed("blinker", 0, 0, 0), new int[][] {{0, 0}, {0, 1}, {0, 2}});
        isBoard("by 1", placed("blinker", 0, 0, 1), new int[][] {{0, 0}, {1, 0}, {2, 0}});
        isBoard("by 2", placed("blinker", 0, 0, 2), new int[][] {{0, 0}, {0, 15}, {0, 14}});
        isBoard("by 3", placed("blinker", 0, 0, 3), new int[][] {{0, 0}, {15, 0}, {14, 0}});
        document.cite("Returns how many CELLS came to be ALIVE");
        Gliderwright world = new Gliderwright();
        check.same("all of them", typed(world, "beacon").place(15, 15, 0), 6);
        check.same("none of them", typed(world, "beacon").place(15, 15, 0), 0);
        check.same("all but one", typed(world, "blinker").place(15, 14, 0), 1);
        check.same("none on a full BOARD", typed(full(), "ship").place(15, 15, 3), 0);
        String before = told(world);
        for (String word : new String[] {"", "life", "seeds", "bloc", "blocks", "blockbl", "shipshop", "s"}) {
            check.same("place " + word, typed(world, word).place(0, 0, 0), Gliderwright.NONE);
            check.same("typed behind " + word, world.type('s'), 1);
            check.same("a word behind " + word, typed(world, "eeds").rule(), true);
        }
        check.same("the BOARD stays", told(world), before);
    }

    private static int placedBy(String word) {
        return typed(new Gliderwright(), word).place(15, 15, 3);
    }

    private void placeRefused() {
        document.cite("Throws `IndexOutOfBoundsException` if there is no such row or column");
        without("place, row", INDEX, 0, 15, (world, row) -> world.place(row, 0, 0));
        without("place, column", INDEX, 0, 15, (world, column) -> world.place(0, column, 0));
        without("place, row and turns", INDEX, 0, 15, (world, row) -> world.place(row, 0, 4));
        without("place, column and turns", INDEX, 0, 15, (world, column) -> world.place(0, column, -1));
        document.cite("Throws `IllegalArgumentException` if turns is out of range");
        without("place, turns", ARGUMENT, 0, 3, (world, turns) -> world.place(15, 15, turns));
        Gliderwright kept = typed(new Gliderwright(), "glider");
        check.refused("no row", INDEX, () -> kept.place(-1, 0, 0));
        check.refused("no turn", ARGUMENT, () -> kept.place(0, 0, 4));
        check.same("the word is still typed", kept.place(0, 0, 0), 5);
    }

    private void set() {
        document.under("Promise 6");
        document.cite("`int set(int row, int bits)");
        Gliderwright world = Start.BUSY.world();
        int[] due = rows(world);
        due[15] = 4711;
        world.set(15, 4711);
        check.same("the others stay", told(world), Arrays.toString(due));
        changesAtMost("set", one -> one.set(0, 1), Told.ROWS);
        document.cite("- `row`: 0 to 15");
        within("set, row", 0, 15, (one, row) -> one.set(row, 1));
        for (int row = 0; row < 16; row++) {
            isBoard("set " + row, world(row, 1 << row), row, 1 << row);
        }
        document.cite("- `bits`: 0 to 65535");
        within("set, bits", 0, 65535, (one, bits) -> one.set(0, bits));
        for (int column = 0; column < 16; column++) {
            Gliderwright bit = world(0, 1 << column);
            check.same("the column " + column, bit.object(0, true), column);
        }
        check.same("no bits", fullBut(15, 0).would(0), 240);
        check.same("all bits", fullBut(0, 65535).would(0), 256);
        document.cite("Returns those before.");
        Gliderwright before = new Gliderwright();
        check.same("none", before.set(15, 65535), 0);
        check.same("all", before.set(15, 32768), 65535);
        check.same("the same", before.set(15, 32768), 32768);
        check.same("one", before.set(15, 0), 32768);
        check.same("none again", before.set(15, 0), 0);
        document.cite("Throws `IndexOutOfBoundsException`");
        without("set, row", INDEX, 0, 15, (one, row) -> one.set(row, 0));
        without("set, row and bits", INDEX, 0, 15, (one, row) -> one.set(row, row));
        refused("set, no row and no bits", INDEX, one -> one.set(16, 65536));
        document.cite("Throws `IllegalArgumentException`");
        without("set, bits", ARGUMENT, 0, 65535, (one, bits) -> one.set(15, bits));
    }

    private static Gliderwright fullBut(int row, int bits) {
        Gliderwright world = full();
        world.set(row, bits);
        return world;
    }

    private void row() {
        document.under("Promise 7");
        document.cite("`int row(int row)");
        changesAtMost("row", world -> world.row(15));
        document.cite("- `row`: 0 to 15");
        within("row", 0, 15, (world, row) -> world.row(row));
        Gliderwright steps = new Gliderwright();
        for (int row = 0; row < 16; row++) {
            steps.set(row, 32768 >> row);
        }
        for (int row = 0; row < 16; row++) {
            check.same("the row " + row, steps.row(row), 32768 >> row);
        }
        document.cite("Returns its bits.");
        check.same("none", new Gliderwright().row(0), 0);
        check.same("all", full().row(15), 65535);
        check.same("the last column alone", world(15, 32768).row(15), 32768);
        document.cite("Throws `IndexOutOfBoundsException`");
        without("row", INDEX, 0, 15, (world, row) -> world.row(row));
    }

    // ---- promises 8 to 10

    private void tick() {
        document.under("Promise 8");
        document.cite("`int tick(int ticks)");
        changesAtMost("tick", world -> world.tick(1), Told.ROWS);
        document.cite("- `ticks`: 1 to 200");
        within("tick", 1, 200, (world, ticks) -> world.tick(ticks));
        Gliderwright once = soup(11, 35);
        Gliderwright single = soup(11, 35);
        once.tick(200);
        for (int tick = 0; tick < 200; tick++) {
            single.tick(1);
        }
        check.same("200 at once are 200 by one", told(once), told(single));
        Gliderwright blinker = placed("blinker", 0, 15, 0);
        blinker.tick(199);
        isBoard("199 of a blinker", blinker, new int[][] {{15, 16}, {0, 16}, {1, 16}});
        document.cite("Returns how many CELLS are ALIVE then.");
        check.same("none", full().tick(1), 0);
        check.same("none of none", new Gliderwright().tick(200), 0);
        check.same("all", ruled(full(), 0, 256).tick(200), 256);
        check.same("all of none", ruled(new Gliderwright(), 1, 256).tick(1), 256);
        Gliderwright world = soup(12, 50);
        check.same("some", world.tick(7), world.would(0));
        document.cite("Throws `IllegalArgumentException`");
        without("tick", ARGUMENT, 1, 200, (one, ticks) -> one.tick(ticks));
    }

    private void would() {
        document.under("Promise 9");
        document.cite("`int would(int ticks)");
        changesAtMost("would", world -> world.would(200));
        document.cite("- `ticks`: 0 to 200");
        within("would", 0, 200, (world, ticks) -> world.would(ticks));
        document.cite("Returns how many.");
        check.same("by 0, of nothing", new Gliderwright().would(0), 0);
        check.same("by 0, of all", full().would(0), 256);
        check.same("by 0, of what dies", world(0, 1).would(0), 1);
        check.same("by 1, of what dies", world(0, 1).would(1), 0);
        check.same("by 200, of nothing", ruled(new Gliderwright(), 1, 0).would(200), 0);
        check.same("by 199, of nothing", ruled(new Gliderwright(), 1, 0).would(199), 256);
        Gliderwright world = soup(12, 50);
        int due = world.would(200);
        int less = world.would(199);
        check.same("by 199 is as 199 TICKS", world.tick(199), less);
        check.same("by 200 is as 200 TICKS", world.tick(1), due);
        document.cite("Throws `IllegalArgumentException`");
        without("would", ARGUMENT, 0, 200, (one, ticks) -> one.would(ticks));
    }

    private void nature() {
        document.under("Promise 10");
        document.cite("`int nature(int ticks, int what)");
        changesAtMost("nature", world -> world.nature(64, 0));
        changesAtMost("nature", world -> world.nature(1, 3));
        document.cite("- `ticks`: 1 to 64");
        within("nature, ticks", 1, 64, (world, ticks) -> world.nature(ticks, 0));
        check.same("a blinker for 1", placed("blinker", 0, 15, 0).nature(1, 0), Gliderwright.UNKNOWN);
        check.same("a blinker for 2", placed("blinker", 0, 15, 0).nature(2, 0), Gliderwright.TURNER);
        check.same("a block for 1", placed("block", 15, 15, 0).nature(1, 0), Gliderwright.REST);
        document.cite("- `what`: 0 EMPTY to UNKNOWN");
        within("nature, what", 0, 3, (world, what) -> world.nature(1, what));
        check.same("empty", toldNature(new Gliderwright(), 64), "0 -1 -1 -1");
        check.same("rest", toldNature(placed("block", 15, 15, 0), 64), "1 1 0 0");
        check.same("turner", toldNature(placed("beacon", 14, 14, 0), 64), "2 2 0 0");
        check.same("traveller", toldNature(placed("glider", 14, 14, 1), 64), "3 4 1 15");
        check.same("unknown", toldNature(world(15, 1), 64), "4 -1 -1 -1");
        document.cite("Returns the number.");
        check.same("the rows of the ship", placed("ship", 15, 15, 1).nature(4, 2), 14);
        check.same("the columns of the ship", placed("ship", 15, 15, 2).nature(4, 3), 2);
        document.cite("Throws `IllegalArgumentException`");
        without("nature, ticks", ARGUMENT, 1, 64, (world, ticks) -> world.nature(ticks, 0));
        without("nature, what", ARGUMENT, 0, 3, (world, what) -> world.nature(64, what));
        refused("nature, both", ARGUMENT, world -> world.nature(0, 4));
    }

    // ---- promises 11 to 14

    private void canon() {
        document.under("Promise 11");
        document.cite("`int canon(int row)");
        changesAtMost("canon", world -> world.canon(15));
        document.cite("- `row`: 0 to 15");
        within("canon", 0, 15, (world, row) -> world.canon(row));
        document.cite("Returns its bits.");
        check.same("none", toldCanon(new Gliderwright()), Arrays.toString(new int[16]));
        check.same("all", toldCanon(full()), told(full()));
        check.same("the first row of a CELL", world(0, 32768).canon(0), 0);
        check.same("the last row of a CELL", world(0, 32768).canon(15), 1);
        check.same("of the CANON of a soup", toldCanon(canonOf(soup(3, 40))), toldCanon(soup(3, 40)));
        check.same("its CANON is itself", told(canonOf(soup(3, 40))), toldCanon(soup(3, 40)));
        document.cite("Throws `IndexOutOfBoundsException`");
        without("canon", INDEX, 0, 15, (world, row) -> world.canon(row));
    }

    private static Gliderwright canonOf(Gliderwright world) {
        Gliderwright canon = new Gliderwright();
        for (int row = 0; row < 16; row++) {
            canon.set(row, world.canon(row));
        }
        return canon;
    }

    private static Gliderwright withEntries(int many) {
        Gliderwright world = new Gliderwright();
        for (int entry = 0; entry < many; entry++) {
            world.set(3, RECORDED[entry]);
            world.record();
        }
        return world;
    }

    private void record() {
        document.under("Promise 12");
        document.cite("`int record()");
        Gliderwright empty = new Gliderwright();
        check.same("an empty BOARD", empty.record(), 0);
        check.same("how often", empty.recorded(0), 1);
        check.same("is known", empty.known(), 0);
        check.same("a full BOARD", full().record(), 0);
        changesAtMost("record", Gliderwright::record, Told.CATALOG);
        document.cite("Returns the number of its entry, which is new if there was none.");
        Gliderwright world = placed("glider", 15, 15, 0);
        check.same("the first", world.record(), 0);
        check.same("the same", world.record(), 0);
        world.tick(4);
        check.same("the same, shifted", world.record(), 0);
        world.tick(1);
        check.same("another", world.record(), 1);
        check.same("the last that is new", withEntries(20).record(), 19);
        Gliderwright nearly = withEntries(19);
        nearly.set(3, RECORDED[20]);
        check.same("new with 19 entries", nearly.record(), 19);
        document.cite("Throws `IllegalStateException` if there is none, and 20 entries");
        Gliderwright most = withEntries(20);
        check.same("one that there is, with 20", most.record(), 19);
        most.set(3, RECORDED[20]);
        check.refused("one that there is not, with 20", STATE, most::record);
        check.refused("and again", STATE, most::record);
        most.set(3, 0);
        check.same("the empty one, with 20", most.record(), 0);
        check.same("how often then", most.recorded(0) + most.recorded(19), 4);
        check.refused("an entry more", INDEX, () -> most.recorded(20));
        refused("record with 20", STATE, Start.FULL, Gliderwright::record);
    }

    private void recorded() {
        document.under("Promise 13");
        document.cite("`int recorded(int entry)");
        changesAtMost("recorded", world -> world.recorded(0));
        document.cite("- `entry`: an entry");
        Gliderwright most = withEntries(20);
        for (int entry = 0; entry < 20; entry++) {
            check.same("recorded " + entry, most.recorded(entry), 1);
        }
        document.cite("Returns how often.");
        Gliderwright often = new Gliderwright();
        for (int time = 1; time <= 200; time++) {
            often.record();
            check.same("time " + time, often.recorded(0), time);
        }
        often.known();
        often.canon(0);
        check.same("what is only asked is not recorded", often.recorded(0), 200);
        document.cite("Throws `IndexOutOfBoundsException`");
        without("recorded by 20", INDEX, 0, 19, (world, entry) -> world.recorded(entry));
        for (int many = 0; many < 20; many++) {
            Gliderwright world = withEntries(many);
            int behind = many;
            check.refused("recorded " + many + " of as many", INDEX, () -> world.recorded(behind));
            check.refused("recorded 19 of " + many, INDEX, () -> world.recorded(19));
            check.refused("recorded -1 of " + many, INDEX, () -> world.recorded(-1));
        }
    }

    private void known() {
        document.under("Promise 14");
        document.cite("`int known()`");
        check.same("without entries", new Gliderwright().known(), Gliderwright.NONE);
        check.same("without entries, of all", full().known(), Gliderwright.NONE);
        Gliderwright most = withEntries(20);
        check.same("the last of 20", most.known(), 19);
        most.set(3, 0);
        check.same("the first, empty", most.known(), 0);
        most.set(3, RECORDED[20]);
        check.same("none of 20", most.known(), Gliderwright.NONE);
        check.same("which adds none", Check.answerOf(() -> most.recorded(20)), INDEX.getName());
        Gliderwright world = placed("glider", 0, 0, 0);
        world.record();
        world.tick(200);
        check.same("shifted", world.known(), 0);
        world.tick(1);
        check.same("turned and mirrored it is another", world.known(), Gliderwright.NONE);
        world.tick(1);
        check.same("behind two TICKS it is mirrored", world.known(), 0);
        Gliderwright all = full();
        all.record();
        for (int row = 0; row < 16; row++) {
            all.set(row, FULL_ROW ^ 1 << row);
            check.same("all but a CELL of the row " + row, all.known(), Gliderwright.NONE);
            all.set(row, FULL_ROW);
            check.same("all again", all.known(), 0);
        }
        changesAtMost("known", Gliderwright::known);
    }

    // ---- promises 15 and 16

    private void objects() {
        document.under("Promise 15");
        document.cite("`int objects()`");
        check.same("of nothing", new Gliderwright().objects(), 0);
        check.same("of one CELL", world(15, 32768).objects(), 1);
        check.same("of all", full().objects(), 1);
        check.same("by the corner of the BOARD", world(15, 32768, 1).objects(), 1);
        check.same("by its sides", world(7, 32769).objects(), 1);
        check.same("by its ends", world(15, 128, 128).objects(), 1);
        check.same("as many as can be", singles().objects(), 64);
        changesAtMost("objects", Gliderwright::objects);
    }

    /** As many OBJECTS as there can be: a CELL in each other row and column. */
    private static Gliderwright singles() {
        Gliderwright world = new Gliderwright();
        for (int row = 0; row < 16; row += 2) {
            world.set(row, 21845);
        }
        return world;
    }

    private void object() {
        document.under("Promise 16");
        document.cite("`int object(int object, boolean isLowest)");
        changesAtMost("object", world -> world.object(0, true));
        changesAtMost("object", world -> world.object(0, false));
        document.cite("- `object`: an OBJECT");
        Gliderwright singles = singles();
        for (int object = 0; object < 64; object++) {
            check.same("the lowest of " + object, singles.object(object, true), object / 8 * 32 + object % 8 * 2);
            check.same("the size of " + object, singles.object(object, false), 1);
        }
        document.cite("- `isLowest`: whether its lowest CELL");
        check.same("the lowest of all", full().object(0, true), 0);
        check.same("the size of all", full().object(0, false), 256);
        check.same("the lowest of the last CELL", world(15, 32768).object(0, true), 255);
        check.same("the lowest round the corner", world(15, 32768, 1).object(0, true), 0);
        check.same("the size round the corner", world(15, 32768, 1).object(0, false), 2);
        document.cite("Returns the number.");
        Gliderwright two = world(15, 3 << 7, 1 << 9, 0, 1);
        check.same("the first begins in the row 0", two.object(0, true), 9);
        check.same("its size", two.object(0, false), 3);
        check.same("the second", two.object(1, true), 32);
        check.same("its size", two.object(1, false), 1);
        document.cite("Throws `IndexOutOfBoundsException`");
        for (boolean isLowest : new boolean[] {true, false}) {
            for (int object : OUT_OF_INT) {
                refused("object " + object, INDEX, world -> world.object(object, isLowest));
            }
            check.refused("of nothing", INDEX, () -> new Gliderwright().object(0, isLowest));
            check.refused("the second of one", INDEX, () -> full().object(1, isLowest));
            check.refused("behind 64", INDEX, () -> singles.object(64, isLowest));
            check.refused("behind all CELLS", INDEX, () -> singles.object(256, isLowest));
            check.refused("behind two", INDEX, () -> two.object(2, isLowest));
            refused("object 256", INDEX, world -> world.object(256, isLowest));
        }
    }

    // ---- promises 17 to 20

    private void soup() {
        document.under("Promise 17");
        document.cite("`int soup(int seed, int density, int symmetry)");
        changesAtMost("soup", world -> world.soup(9, 40, 0), Told.ROWS);
        Gliderwright full = full();
        full.soup(9, 40, 1);
        Gliderwright empty = new Gliderwright();
        empty.soup(9, 40, 1);
        check.same("whatever was there", told(full), told(empty));
        document.cite("- `seed`: 0 to 65535");
        within("soup, seed", 0, 65535, (world, seed) -> world.soup(seed, 50, 0));
        Gliderwright zero = soup(0, 46);
        check.same("the first three by the seed 0: 12345, 62928, 19305", zero.row(0) & 7, 7);
        Gliderwright most = soup(65535, 42);
        check.same("the first by the seed 65535: 11242 is not less than 42", most.row(0) & 1, 0);
        most.soup(65535, 43, 0);
        check.same("but less than 43", most.row(0) & 1, 1);
        document.cite("- `density`: 0 to 100");
        within("soup, density", 0, 100, (world, density) -> world.soup(1, density, 1));
        document.cite("- `symmetry`: 0 to 2");
        within("soup, symmetry", 0, 2, (world, symmetry) -> world.soup(1, 50, symmetry));
        document.cite("Returns how many CELLS are ALIVE then.");
        for (int symmetry = 0; symmetry <= 2; symmetry++) {
            check.same("none", full().soup(7, 0, symmetry), 0);
            check.same("all", new Gliderwright().soup(7, 100, symmetry), 256);
            Gliderwright world = new Gliderwright();
            check.same("some", world.soup(7, 50, symmetry), world.would(0));
        }
        document.cite("Throws `IllegalArgumentException`");
        without("soup, seed", ARGUMENT, 0, 65535, (world, seed) -> world.soup(seed, 50, 0));
        without("soup, density", ARGUMENT, 0, 100, (world, density) -> world.soup(1, density, 1));
        without("soup, symmetry", ARGUMENT, 0, 2, (world, symmetry) -> world.soup(1, 50, symmetry));
        refused("soup, all", ARGUMENT, world -> world.soup(65536, 101, 3));
    }

    private void blocks() {
        document.under("Promise 18");
        document.cite("`int blocks(int steps, boolean isForward)");
        changesAtMost("blocks", world -> world.blocks(1, true), Told.ROWS, Told.PHASE);
        changesAtMost("blocks", world -> world.blocks(1, false), Told.ROWS, Told.PHASE);
        document.cite("- `steps`: 1 to 200");
        within("blocks", 1, 200, (world, steps) -> world.blocks(steps, true));
        within("blocks back", 1, 200, (world, steps) -> world.blocks(steps, false));
        Gliderwright once = soup(11, 35);
        Gliderwright single = soup(11, 35);
        once.blocks(200, true);
        for (int step = 0; step < 200; step++) {
            single.blocks(1, true);
        }
        check.same("200 at once are 200 by one", told(once), told(single));
        document.cite("- `isForward`: whether forward");
        once.blocks(200, false);
        check.same("200 back", told(once), told(soup(11, 35)));
        Gliderwright corner = world(0, 1);
        corner.blocks(1, true);
        isBoard("forward", corner, 1, 2);
        Gliderwright back = world(0, 1);
        back.blocks(1, false);
        isBoard("back round the corner", back, 15, 32768);
        document.cite("Returns the PHASE then.");
        Gliderwright world = new Gliderwright();
        check.same("1 forward", world.blocks(1, true), 1);
        check.same("1 forward from 1", world.blocks(1, true), 0);
        check.same("1 back", world.blocks(1, false), 1);
        check.same("1 back from 1", world.blocks(1, false), 0);
        check.same("200 forward", world.blocks(200, true), 0);
        check.same("199 forward", world.blocks(199, true), 1);
        check.same("200 back from 1", world.blocks(200, false), 1);
        check.same("199 back from 1", world.blocks(199, false), 0);
        document.cite("Throws `IllegalArgumentException`");
        without("blocks", ARGUMENT, 1, 200, (one, steps) -> one.blocks(steps, true));
        without("blocks back", ARGUMENT, 1, 200, (one, steps) -> one.blocks(steps, false));
    }

    private void mark() {
        document.under("Promise 19");
        document.cite("`int mark()");
        changesAtMost("mark", Gliderwright::mark, Told.MARKS);
        document.cite("Returns how many there are then.");
        Gliderwright world = new Gliderwright();
        for (int many = 1; many <= 8; many++) {
            check.same("mark", world.mark(), many);
        }
        document.cite("Throws `IllegalStateException` if there are 8");
        check.refused("the ninth", STATE, world::mark);
        check.refused("and again", STATE, world::mark);
        check.same("one less", world.undo(), 7);
        check.same("one more", world.mark(), 8);
        check.refused("no more", STATE, world::mark);
        refused("mark with 8", STATE, Start.FULL, Gliderwright::mark);
    }

    private void undo() {
        document.under("Promise 20");
        document.cite("`int undo()");
        Gliderwright world = new Gliderwright();
        for (int mark = 0; mark < 8; mark++) {
            world.set(15, 1 << mark);
            world.mark();
        }
        for (int mark = 7; mark >= 0; mark--) {
            world.set(0, 65535);
            world.undo();
            isBoard("the latest first, " + mark, world, 15, 1 << mark);
        }
        Gliderwright replaced = world(3, 9);
        replaced.mark();
        replaced.undo();
        replaced.set(3, 6);
        replaced.mark();
        replaced.set(3, 0);
        replaced.undo();
        isBoard("the one that is gone does not come again", replaced, 3, 6);
        changesAtMost("undo", Gliderwright::undo, Told.ROWS, Told.PHASE, Told.MARKS);
        document.cite("Returns how many there are then.");
        Gliderwright most = Start.FULL.world();
        for (int many = 7; many >= 0; many--) {
            check.same("undo", most.undo(), many);
        }
        document.cite("Throws `IllegalStateException` if there is none");
        check.refused("behind the first", STATE, most::undo);
        check.refused("and again", STATE, most::undo);
        check.same("then the first again", most.mark(), 1);
        check.same("and it is gone", most.undo(), 0);
        refused("undo without", STATE, Start.NEW, Gliderwright::undo);
    }

    // ---- promises 21 to 24

    /** A call of one of the four methods of rings. */
    private interface OfRing {
        Object on(Gliderwright world, int number, int many, int ring);
    }

    private void ringRanges(String call, OfRing deed) {
        document.cite("- `number`: 0 to 255");
        within(call + ", number", 0, 255, (world, number) -> deed.on(world, number, 3, 5));
        document.cite("- `many`: 3 to 12");
        within(call + ", many", 3, 12, (world, many) -> deed.on(world, 30, many, 5));
        document.cite("- `ring`: 0 to 2 to the power of many less 1");
        for (int many = 3; many <= 12; many++) {
            int one = many;
            within(call + ", ring of " + many, 0, (1 << many) - 1, (world, ring) -> deed.on(world, 30, one, ring));
        }
        changesAtMost(call, world -> deed.on(world, 30, 12, 4095));
    }

    private void ringRefused(String call, OfRing deed) {
        document.cite("Throws `IllegalArgumentException`");
        without(call + ", number", ARGUMENT, 0, 255, (world, number) -> deed.on(world, number, 12, 0));
        without(call + ", many", ARGUMENT, 3, 12, (world, many) -> deed.on(world, 30, many, 0));
        for (int many = 3; many <= 12; many++) {
            int one = many;
            without(call + ", ring of " + many, ARGUMENT, 0, (1 << many) - 1,
                    (world, ring) -> deed.on(world, 30, one, ring));
        }
        for (int many : new int[] {32, 35, 44, 64, -29}) {
            refused(call + ", many " + many, ARGUMENT, world -> deed.on(world, 30, many, 5));
        }
        refused(call + ", all", ARGUMENT, world -> deed.on(world, 256, 13, -1));
    }

    private void ring() {
        document.under("Promise 21");
        document.cite("`int ring(int number, int many, int ring, int ticks)");
        Gliderwright world = new Gliderwright();
        check.same("by 110", world.ring(110, 5, 1, 1), 17);
        check.same("by 90, twice", world.ring(90, 6, 4, 2), 17);
        check.same("by 30", world.ring(30, 3, 1, 1), 7);
        ringRanges("ring", (one, number, many, ring) -> one.ring(number, many, ring, 1));
        document.cite("- `ticks`: 0 to 1000");
        within("ring, ticks", 0, 1000, (one, ticks) -> one.ring(30, 12, 1, ticks));
        document.cite("Returns the ring.");
        check.same("itself by no TICKS", world.ring(0, 12, 4095, 0), 4095);
        check.same("nothing by no TICKS", world.ring(255, 12, 0, 0), 0);
        check.same("the other one by 999", world.ring(51, 12, 4095, 999), 0);
        check.same("itself by 1000", world.ring(51, 12, 4095, 1000), 4095);
        check.same("round 3 by 1000", world.ring(240, 3, 1, 1000), 2);
        check.same("round 12 by 1000", world.ring(240, 12, 1, 1000), 16);
        check.same("the other way round 12 by 1000", world.ring(170, 12, 1, 1000), 256);
        ringRefused("ring", (one, number, many, ring) -> one.ring(number, many, ring, 1));
        without("ring, ticks", ARGUMENT, 0, 1000, (one, ticks) -> one.ring(30, 12, 1, ticks));
    }

    private void parents() {
        document.under("Promise 22");
        document.cite("`int parents(");
        manyParents("parents", Gliderwright::parents);
        ringRanges("parents", Gliderwright::parents);
        document.cite("Returns how many.");
        fewestAndMost("parents", Gliderwright::parents);
        ringRefused("parents", Gliderwright::parents);
    }

    private void manyParents(String call, OfRing deed) {
        Gliderwright world = new Gliderwright();
        check.same(call + " by 90 of 0, even", deed.on(world, 90, 6, 0), 4);
        check.same(call + " by 90 of 0, odd", deed.on(world, 90, 5, 0), 2);
        check.same(call + " by 90 of one", deed.on(world, 90, 5, 1), 0);
        check.same(call + " by 240", deed.on(world, 240, 12, 2048), 1);
    }

    private void fewestAndMost(String call, OfRing deed) {
        Gliderwright world = new Gliderwright();
        for (int many = 3; many <= 12; many++) {
            int all = (1 << many) - 1;
            check.same(call + " by 0, all of " + many, deed.on(world, 0, many, 0), all + 1);
            check.same(call + " by 0, none of " + many, deed.on(world, 0, many, all), 0);
            check.same(call + " by 255, all of " + many, deed.on(world, 255, many, all), all + 1);
            check.same(call + " by 255, none of " + many, deed.on(world, 255, many, 0), 0);
            check.same(call + " by 128, one of " + many, deed.on(world, 128, many, all), 1);
            check.same(call + " by 254, all but one of " + many, deed.on(world, 254, many, 0), 1);
        }
    }

    private void parentsAnew() {
        document.under("Promise 23");
        document.cite("`int parentsAnew(");
        manyParents("parentsAnew", Gliderwright::parentsAnew);
        for (int number = 0; number < 256; number++) {
            Gliderwright world = new Gliderwright();
            for (int ring : new int[] {0, 1, 2048, 4094, 4095, number * 16, number * 3}) {
                check.same("the same, " + number + " " + ring, world.parentsAnew(number, 12, ring),
                        world.parents(number, 12, ring));
            }
        }
        ringRanges("parentsAnew", Gliderwright::parentsAnew);
        document.cite("Returns how many.");
        fewestAndMost("parentsAnew", Gliderwright::parentsAnew);
        ringRefused("parentsAnew", Gliderwright::parentsAnew);
    }

    private void parent() {
        document.under("Promise 24");
        document.cite("`int parent(");
        Gliderwright world = new Gliderwright();
        check.same("the least of two", world.parent(90, 5, 0), 0);
        check.same("the least of four", world.parent(90, 6, 20), 8);
        check.same("by 240, round the ring", world.parent(240, 12, 1), 2048);
        ringRanges("parent", Gliderwright::parent);
        document.cite("Returns the parent, NONE without.");
        for (int many = 3; many <= 12; many++) {
            int all = (1 << many) - 1;
            check.same("the first of all of " + many, world.parent(0, many, 0), 0);
            check.same("none of " + many, world.parent(0, many, all), Gliderwright.NONE);
            check.same("none of " + many + " by 255", world.parent(255, many, all - 1), Gliderwright.NONE);
            check.same("the last of " + many, world.parent(51, many, 0), all);
            check.same("the last of " + many + " by 128", world.parent(128, many, all), all);
        }
        int[] withoutGaps = {1, 3, 5, 9, 19, 37, 73, 147, 293, 585};
        for (int many = 3; many <= 12; many++) {
            check.same("the least of " + many + " without three in a row that are not ALIVE",
                    world.parent(1, many, 0), withoutGaps[many - 3]);
        }
        ringRefused("parent", Gliderwright::parent);
    }
}
