import java.util.Arrays;

/** The promises of the document one by one, with answers found by hand. */
public final class PromisesTest extends Worlds {
    public static void main(String[] args) {
        PromisesTest all = new PromisesTest();
        all.newObject();
        all.type();
        all.rule();
        all.table();
        all.place();
        all.placeRefused();
        all.set();
        all.row();
        all.tick();
        all.would();
        all.natureKinds();
        all.natureShifts();
        all.natureRefused();
        all.canon();
        all.canonOfAllWays();
        all.record();
        all.recorded();
        all.known();
        all.objects();
        all.object();
        all.soupDraws();
        all.soupSymmetries();
        all.soupRefused();
        all.blocks();
        all.blocksBack();
        all.mark();
        all.undo();
        all.ring();
        all.parents();
        all.ringsRefused();
        all.check.end();
    }

    // ---- helpers

    /** The refused call must leave the rows, the PHASE, the MARKS, the CATALOG and the RULE as they are. */
    private void refusedAndUnchanged(String call, Class<? extends RuntimeException> due, Gliderwright world,
            Check.Call made) {
        String before = told(world) + phaseOf(world) + world.known() + world.would(1) + world.would(7);
        check.refused(call, due, made);
        String after = told(world) + phaseOf(world) + world.known() + world.would(1) + world.would(7);
        check.same("what is there behind " + call, after, before);
    }

    private void isRule(String call, Gliderwright world, String births, String stays) {
        check.same(call, ruleOf(world), births + "/" + stays);
    }

    // ---- promise 1

    private void newObject() {
        check.part("promise 1");
        Gliderwright world = new Gliderwright();
        isBoard("rows", world, 0);
        check.same("objects", world.objects(), 0);
        check.same("nature", world.nature(1, 0), Gliderwright.EMPTY);
        check.same("known", world.known(), Gliderwright.NONE);
        check.refused("recorded", INDEX, () -> world.recorded(0));
        check.refused("undo", STATE, world::undo);
        check.same("place with nothing typed", world.place(0, 0, 0), Gliderwright.NONE);
        check.same("rule with nothing typed", world.rule(), false);
        check.same("type", world.type('q'), 1);
        check.same("phase", world.blocks(1, true), 1);
        isRule("the rule at first", new Gliderwright(), "3", "23");
        Gliderwright other = new Gliderwright();
        other.set(3, 9);
        other.table(0, 0);
        isBoard("rows, when another object has some", new Gliderwright(), 0);
        isRule("the rule, when another object has one", new Gliderwright(), "3", "23");
        check.same("NONE", Gliderwright.NONE, -1);
        check.same("EMPTY", Gliderwright.EMPTY, 0);
        check.same("REST", Gliderwright.REST, 1);
        check.same("TURNER", Gliderwright.TURNER, 2);
        check.same("TRAVELLER", Gliderwright.TRAVELLER, 3);
        check.same("UNKNOWN", Gliderwright.UNKNOWN, 4);
    }

    // ---- promises 2 to 4

    private void type() {
        check.part("promise 2");
        for (char letter = 'a'; letter <= 'z'; letter++) {
            check.same("type " + letter, new Gliderwright().type(letter), 1);
        }
        Gliderwright world = new Gliderwright();
        char[] wrong = {'`', '{', 'A', 'Z', '0', ' ', 0, 127, (char) 233, (char) 321, (char) 65535};
        check.same("the first", world.type('g'), 1);
        for (char letter : wrong) {
            check.refused("type " + (int) letter, ARGUMENT, () -> world.type(letter));
        }
        check.same("the second", world.type('l'), 2);
        typed(world, "ide");
        check.refused("type -", ARGUMENT, () -> world.type('-'));
        check.same("the sixth", world.type('r'), 6);
        check.same("the word without what was refused", world.place(0, 0, 0), 5);
        check.same("the first behind a word", world.type('a'), 1);
        typed(world, "bcdefg");
        check.same("the eighth", world.type('h'), 8);
        check.refused("the ninth", STATE, () -> world.type('i'));
        check.refused("the ninth, no letter", ARGUMENT, () -> world.type('I'));
        check.refused("the ninth again", STATE, () -> world.type('a'));
        check.same("a word of eight", world.rule(), false);
        check.same("the first behind eight", world.type('z'), 1);
    }

    private void rule() {
        check.part("promise 3");
        String[][] rules = {{"seeds", "2", ""}, {"high", "36", "23"}, {"maze", "3", "12345"},
            {"day", "3678", "34678"}, {"life", "3", "23"}};
        Gliderwright one = new Gliderwright();
        for (String[] rule : rules) {
            check.same(rule[0], typed(one, rule[0]).rule(), true);
            Gliderwright world = typed(new Gliderwright(), rule[0]);
            world.rule();
            isRule(rule[0], world, rule[1], rule[2]);
        }
        String[] none = {"", "lif", "lifes", "elife", "seed", "hig", "m", "days", "block", "glider", "ship",
            "blinker", "beacon"};
        for (String word : none) {
            Gliderwright world = typed(new Gliderwright(), "day");
            world.rule();
            check.same("rule by " + word, typed(world, word).rule(), false);
            check.same("typed behind " + word, world.type('m'), 1);
            check.same("a rule behind " + word, typed(world, "aze").rule(), true);
        }
        Gliderwright stays = typed(new Gliderwright(), "day");
        stays.rule();
        typed(stays, "glider").rule();
        isRule("day, behind the word of a pattern", stays, "3678", "34678");
        stays.rule();
        isRule("day, behind nothing", stays, "3678", "34678");
        Gliderwright kept = placed("block", 2, 2, 0);
        typed(kept, "maze").rule();
        isBoard("the board behind a rule", kept, 2, 12, 12);
    }

    private void table() {
        check.part("promise 4");
        int[][] sets = {{341, 170}, {170, 341}, {0, 511}, {511, 0}, {0, 0}, {511, 511}, {1, 256}, {256, 1}};
        for (int[] set : sets) {
            Gliderwright world = new Gliderwright();
            world.table(set[0], set[1]);
            isRule("table " + set[0] + " " + set[1], world, digits(set[0]), digits(set[1]));
        }
        Gliderwright world = placed("blinker", 4, 4, 0);
        int[][] wrong = {{512, 0}, {-1, 0}, {0, 512}, {0, -1}, {MIN, 0}, {MAX, 0}, {0, MIN}, {0, MAX}};
        for (int[] set : wrong) {
            refusedAndUnchanged("table " + set[0] + " " + set[1], ARGUMENT, world, () -> {
                world.table(set[0], set[1]);
                return 0;
            });
        }
        typed(world, "blo").table(4, 0);
        check.same("typed behind a table", world.type('c'), 4);
    }

    private static String digits(int set) {
        StringBuilder digits = new StringBuilder();
        for (int count = 0; count <= 8; count++) {
            if ((set >> count & 1) == 1) {
                digits.append(count);
            }
        }
        return digits.toString();
    }

    // ---- promises 5 to 7

    private void place() {
        check.part("promise 5");
        isBoard("block", placed("block", 0, 0, 0), 0, 3, 3);
        isBoard("blinker", placed("blinker", 0, 0, 0), 0, 7);
        isBoard("glider", placed("glider", 0, 0, 0), 0, 2, 4, 7);
        isBoard("beacon", placed("beacon", 0, 0, 0), 0, 3, 1, 8, 12);
        isBoard("ship", placed("ship", 0, 0, 0), 0, 18, 1, 17, 15);
        isBoard("glider turned once", placed("glider", 4, 4, 1), 4, 4, 20, 12);
        isBoard("glider turned twice", placed("glider", 4, 4, 2), 2, 28, 4, 8);
        isBoard("glider turned thrice", placed("glider", 4, 4, 3), 2, 96, 80, 64);
        isBoard("blinker turned once", placed("blinker", 8, 8, 1), 8, 256, 256, 256);
        isBoard("blinker turned thrice", placed("blinker", 8, 8, 3), 6, 256, 256, 256);
        isBoard("glider round the corner", placed("glider", 15, 15, 0), 15, 1, 2, 32771);
        isBoard("block turned round the corner", placed("block", 0, 0, 2), 15, 32769, 32769);
        Gliderwright world = new Gliderwright();
        check.same("block", typed(world, "block").place(3, 3, 0), 4);
        check.same("block again", typed(world, "block").place(3, 3, 0), 0);
        check.same("block over half of it", typed(world, "block").place(3, 4, 0), 2);
        check.same("ship", typed(world, "ship").place(8, 15, 3), 9);
        check.same("typed behind it", world.type('a'), 1);
        String[] none = {"a", "life", "bloc", "blocks", "gliderr", ""};
        Gliderwright other = placed("beacon", 1, 1, 0);
        String before = told(other);
        for (String word : none) {
            check.same("place " + word, typed(other, word).place(0, 0, 0), Gliderwright.NONE);
            check.same("board behind " + word, told(other), before);
            check.same("typed behind " + word, other.type('s'), 1);
            check.same("a pattern behind " + word, typed(other, "hip").place(1, 1, 0) >= 0, true);
            before = told(other);
        }
    }

    private void placeRefused() {
        Gliderwright world = typed(new Gliderwright(), "glider");
        int[][] index = {{16, 0, 0}, {-1, 0, 0}, {0, 16, 0}, {0, -1, 0}, {16, 16, 4}, {0, -1, 4}, {MIN, 0, -1},
            {MAX, 0, 0}, {0, MIN, 0}, {0, MAX, 9}};
        for (int[] at : index) {
            refusedAndUnchanged("place " + Arrays.toString(at), INDEX, world, () -> world.place(at[0], at[1], at[2]));
        }
        for (int turns : new int[] {-1, 4, MIN, MAX}) {
            refusedAndUnchanged("place, turns " + turns, ARGUMENT, world, () -> world.place(0, 0, turns));
        }
        Gliderwright nothing = new Gliderwright();
        check.refused("place nothing in no row", INDEX, () -> nothing.place(16, 0, 0));
        check.refused("place nothing with no turn", ARGUMENT, () -> nothing.place(15, 15, 4));
        check.same("the word that was kept", world.place(15, 15, 3), 5);
    }

    private void set() {
        check.part("promise 6");
        Gliderwright world = new Gliderwright();
        check.same("set", world.set(0, 65535), 0);
        check.same("set again", world.set(0, 5), 65535);
        check.same("set the last", world.set(15, 32768), 0);
        check.same("set to the same", world.set(15, 32768), 32768);
        isBoard("board", world, 15, 32768, 5);
        check.same("set to nothing", world.set(0, 0), 5);
        isBoard("board then", world, 15, 32768);
        int[][] index = {{16, 0}, {-1, 0}, {16, 65536}, {-1, -1}, {MIN, 0}, {MAX, MAX}};
        for (int[] at : index) {
            refusedAndUnchanged("set " + Arrays.toString(at), INDEX, world, () -> world.set(at[0], at[1]));
        }
        for (int bits : new int[] {-1, 65536, MIN, MAX}) {
            refusedAndUnchanged("set to " + bits, ARGUMENT, world, () -> world.set(15, bits));
        }
    }

    private void row() {
        check.part("promise 7");
        Gliderwright world = world(0, 1, 2, 4, 8, 16, 32, 64, 128, 256, 512, 1024, 2048, 4096, 8192, 16384, 32768);
        for (int row = 0; row < 16; row++) {
            check.same("row " + row, world.row(row), 1 << row);
        }
        for (int row : new int[] {-1, 16, MIN, MAX}) {
            refusedAndUnchanged("row " + row, INDEX, world, () -> world.row(row));
        }
    }

    // ---- promises 8 to 10

    private void tick() {
        check.part("promise 8");
        Gliderwright world = placed("glider", 0, 0, 0);
        check.same("one tick", world.tick(1), 5);
        isBoard("glider behind one", world, 1, 5, 6, 2);
        check.same("three more", world.tick(3), 5);
        isBoard("glider behind four", world, 1, 4, 8, 14);
        world.tick(60);
        isBoard("glider round the board", world, 0, 2, 4, 7);
        check.same("200", world.tick(200), 5);
        isBoard("glider behind 200", world, 2, 8, 16, 28);
        Gliderwright corner = placed("blinker", 0, 15, 0);
        check.same("blinker over the corner", corner.tick(1), 3);
        isBoard("blinker over the corner", corner, 15, 1, 1, 1);
        Gliderwright lonely = world(9, 4);
        check.same("one that dies out", lonely.tick(1), 0);
        Gliderwright empty = new Gliderwright();
        empty.table(1, 0);
        check.same("births by none", empty.tick(1), 256);
        check.same("and then none", empty.tick(1), 0);
        check.same("every other", empty.tick(199), 256);
        for (int ticks : new int[] {0, -1, 201, MIN, MAX}) {
            refusedAndUnchanged("tick " + ticks, ARGUMENT, world, () -> world.tick(ticks));
        }
        Gliderwright kept = typed(placed("blinker", 4, 4, 0), "gli");
        kept.tick(1);
        check.same("typed behind ticks", kept.type('d'), 4);
        check.same("phase behind ticks", phaseOf(kept), 0);
    }

    private void would() {
        check.part("promise 9");
        Gliderwright world = typed(new Gliderwright(), "seeds");
        world.rule();
        world.set(7, 3 << 7);
        String before = told(world);
        check.same("none", world.would(0), 2);
        check.same("one", world.would(1), 4);
        check.same("the board", told(world), before);
        check.same("one is as one tick", world.tick(1), 4);
        for (int ticks : new int[] {-1, 201, MIN, MAX}) {
            refusedAndUnchanged("would " + ticks, ARGUMENT, world, () -> world.would(ticks));
        }
        Gliderwright soup = new Gliderwright();
        soup.soup(77, 40, 0);
        int due = soup.would(200);
        check.same("200", soup.tick(200), due);
        check.same("none of an empty board", new Gliderwright().would(0), 0);
    }

    private void isNature(String call, Gliderwright world, int ticks, int kind, int period, int down, int right) {
        String before = told(world);
        int[] due = {kind, period, down, right};
        for (int what = 0; what < 4; what++) {
            check.same(call + ", nature " + ticks + " " + what, world.nature(ticks, what), due[what]);
        }
        check.same(call + ", the board behind", told(world), before);
    }

    private void natureKinds() {
        check.part("promise 10");
        isNature("empty", new Gliderwright(), 64, Gliderwright.EMPTY, -1, -1, -1);
        Gliderwright born = new Gliderwright();
        born.table(1, 511);
        isNature("empty, births by none", born, 5, Gliderwright.EMPTY, -1, -1, -1);
        isNature("block", placed("block", 15, 15, 0), 1, Gliderwright.REST, 1, 0, 0);
        isNature("block", placed("block", 3, 3, 0), 64, Gliderwright.REST, 1, 0, 0);
        isNature("blinker", placed("blinker", 3, 3, 0), 2, Gliderwright.TURNER, 2, 0, 0);
        isNature("blinker", placed("blinker", 3, 3, 0), 1, Gliderwright.UNKNOWN, -1, -1, -1);
        isNature("beacon", placed("beacon", 3, 3, 1), 64, Gliderwright.TURNER, 2, 0, 0);
        isNature("glider", placed("glider", 3, 3, 0), 3, Gliderwright.UNKNOWN, -1, -1, -1);
        isNature("lone", world(2, 1), 64, Gliderwright.UNKNOWN, -1, -1, -1);
        Gliderwright full = world(0, 65535, 65535, 65535, 65535, 65535, 65535, 65535, 65535,
                65535, 65535, 65535, 65535, 65535, 65535, 65535, 65535);
        isNature("full, dies", full, 64, Gliderwright.UNKNOWN, -1, -1, -1);
        full.table(1, 0);
        isNature("full, comes again", full, 64, Gliderwright.TURNER, 2, 0, 0);
        full.table(0, 256);
        isNature("full, stays", full, 64, Gliderwright.REST, 1, 0, 0);
    }

    private void natureShifts() {
        isNature("glider", placed("glider", 3, 3, 0), 4, Gliderwright.TRAVELLER, 4, 1, 1);
        isNature("glider", placed("glider", 15, 15, 0), 64, Gliderwright.TRAVELLER, 4, 1, 1);
        isNature("glider turned once", placed("glider", 3, 3, 1), 64, Gliderwright.TRAVELLER, 4, 1, 15);
        isNature("glider turned twice", placed("glider", 3, 3, 2), 64, Gliderwright.TRAVELLER, 4, 15, 15);
        isNature("glider turned thrice", placed("glider", 3, 3, 3), 64, Gliderwright.TRAVELLER, 4, 15, 1);
        isNature("ship", placed("ship", 3, 3, 0), 4, Gliderwright.TRAVELLER, 4, 0, 14);
        isNature("ship turned once", placed("ship", 3, 3, 1), 4, Gliderwright.TRAVELLER, 4, 14, 0);
        int full = 65535;
        Gliderwright lines = world(0, full, 0, full, 0, full, 0, full, 0, full, 0, full, 0, full, 0, full, 0);
        lines.table(1 << 6, 0);
        isNature("lines across", lines, 1, Gliderwright.TRAVELLER, 1, 1, 0);
        Gliderwright posts = new Gliderwright();
        Gliderwright squares = new Gliderwright();
        for (int row = 0; row < 16; row++) {
            posts.set(row, 21845);
            squares.set(row, row % 2 == 0 ? 21845 : 43690);
        }
        posts.table(1 << 6, 0);
        isNature("lines down", posts, 64, Gliderwright.TRAVELLER, 1, 0, 1);
        squares.table(1 << 4, 0);
        isNature("squares", squares, 64, Gliderwright.TRAVELLER, 1, 0, 1);
        squares.table(0, 1 << 4);
        isNature("squares that stay", squares, 64, Gliderwright.REST, 1, 0, 0);
        Gliderwright trodden = world(15, full, 96, full);
        trodden.table(1 << 7, 1 << 2 | 1 << 3 | 1 << 4 | 1 << 5);
        isNature("one row of three goes on", trodden, 1, Gliderwright.UNKNOWN, -1, -1, -1);
        trodden.tick(1);
        isBoard("one row of three went on", trodden, 15, full, 144, full);
        Gliderwright two = placed("glider", 0, 0, 0);
        typed(two, "block").place(8, 8, 0);
        isNature("glider and block, before they meet", two, 4, Gliderwright.UNKNOWN, -1, -1, -1);
    }

    private void natureRefused() {
        Gliderwright world = placed("blinker", 3, 3, 0);
        int[][] wrong = {{0, 0}, {65, 0}, {-1, 0}, {1, -1}, {1, 4}, {MIN, 0}, {MAX, 0}, {64, MIN}, {64, MAX}};
        for (int[] two : wrong) {
            refusedAndUnchanged("nature " + Arrays.toString(two), ARGUMENT, world,
                    () -> world.nature(two[0], two[1]));
            check.refused("nature of an empty board", ARGUMENT, () -> new Gliderwright().nature(two[0], two[1]));
        }
    }

    // ---- promises 11 to 14

    private void isCanon(String call, Gliderwright world, int first, int... rows) {
        String before = told(world);
        check.same(call, toldCanon(world), Arrays.toString(lone(first, rows)));
        check.same(call + ", the board behind", told(world), before);
    }

    private void canon() {
        check.part("promise 11");
        isCanon("empty", new Gliderwright(), 0);
        isCanon("one", world(7, 1 << 9), 15, 1);
        for (int turns = 0; turns < 4; turns++) {
            isCanon("blinker", placed("blinker", 5, 11 + turns, turns), 15, 7);
            isCanon("block", placed("block", turns, 15, turns), 14, 3, 3);
            isCanon("glider", placed("glider", 14, 3 * turns, turns), 13, 1, 2, 32771);
        }
        isCanon("glider mirrored", world(4, 2, 1, 7), 13, 1, 2, 32771);
        isCanon("hook", world(4, 1, 1, 3), 14, 1, 7);
        isCanon("hook mirrored", world(15, 1 << 15, 1 << 15, 1 | 1 << 15), 14, 1, 7);
        isCanon("hook the other way", world(4, 2, 2, 3), 14, 1, 7);
        isCanon("two far apart", world(3, 2, 0, 0, 0, 0, 0, 0, 0, 512), 7, 1, 0, 0, 0, 0, 0, 0, 0, 256);
        isCanon("two above each other", world(15, 4, 4), 15, 3);
        int full = 65535;
        isCanon("full", world(0, full, full, full, full, full, full, full, full, full, full, full, full, full, full,
                full, full), 0, full, full, full, full, full, full, full, full, full, full, full, full, full, full,
                full, full);
        Gliderwright ruled = placed("glider", 2, 2, 2);
        ruled.table(511, 511);
        isCanon("whatever the rule", ruled, 13, 1, 2, 32771);
        Gliderwright world = placed("ship", 2, 2, 2);
        for (int row : new int[] {-1, 16, MIN, MAX}) {
            refusedAndUnchanged("canon " + row, INDEX, world, () -> world.canon(row));
        }
    }

    /** A hook has eight ways to lie: each of them, at each CELL, must come to the one entry. */
    private void canonOfAllWays() {
        int[][] hooks = {{0, 1, 2, 18}, {0, 1, 2, 16}, {16, 17, 18, 0}, {16, 17, 18, 2}, {0, 16, 32, 33},
            {0, 16, 32, 1}, {1, 17, 33, 0}, {1, 17, 33, 32}};
        Gliderwright world = world(4, 1, 1, 3);
        world.record();
        for (int[] hook : hooks) {
            for (int shift = 0; shift < 256; shift++) {
                world.soup(0, 0, 0);
                for (int cell : hook) {
                    int row = (cell / 16 + shift / 16) % 16;
                    world.set(row, world.row(row) | 1 << (cell + shift) % 16);
                }
                check.same("hook " + Arrays.toString(hook) + " at " + shift, world.known(), 0);
            }
        }
        world.soup(0, 100, 0);
        world.record();
        world.set(9, 65535 - 128);
        check.same("all but one is not all", world.known(), Gliderwright.NONE);
        check.same("the hole comes first", world.canon(0), 32767);
        check.same("and the other rows are full", world.canon(1), 65535);
    }

    private static Gliderwright withTwentyEntries() {
        Gliderwright world = new Gliderwright();
        for (int many = 0; many <= 16; many++) {
            world.set(3, (1 << many) - 1);
            world.record();
        }
        for (int bits : new int[] {5, 9, 17}) {
            world.set(3, bits);
            world.record();
        }
        return world;
    }

    private void record() {
        check.part("promise 12");
        Gliderwright world = new Gliderwright();
        check.same("empty", world.record(), 0);
        typed(world, "glider").place(0, 0, 0);
        check.same("glider", world.record(), 1);
        world.tick(8);
        check.same("glider further on", world.record(), 1);
        world.tick(1);
        check.same("glider between", world.record(), 2);
        world.soup(0, 0, 0);
        check.same("empty again", world.record(), 0);
        Gliderwright full = withTwentyEntries();
        check.same("the last entry", full.recorded(19), 1);
        full.set(3, 33);
        refusedAndUnchanged("record with 20 entries", STATE, full, full::record);
        check.refused("recorded behind it", INDEX, () -> full.recorded(20));
        full.set(3, 17 << 5);
        check.same("one that there is, with 20 entries", full.record(), 19);
        check.same("how often then", full.recorded(19), 2);
        full.set(3, 0);
        check.same("the first, with 20 entries", full.record(), 0);
        full.table(0, 511);
        full.set(3, 1);
        check.same("whatever the rule", full.record(), 1);
    }

    private void recorded() {
        check.part("promise 13");
        Gliderwright world = new Gliderwright();
        check.refused("without entries", INDEX, () -> world.recorded(0));
        world.record();
        world.record();
        world.set(0, 1);
        world.record();
        world.known();
        check.same("twice", world.recorded(0), 2);
        check.same("once", world.recorded(1), 1);
        for (int entry : new int[] {-1, 2, 19, 20, MIN, MAX}) {
            refusedAndUnchanged("recorded " + entry, INDEX, world, () -> world.recorded(entry));
        }
        Gliderwright full = withTwentyEntries();
        for (int entry = 0; entry < 20; entry++) {
            check.same("recorded " + entry, full.recorded(entry), 1);
        }
        check.refused("recorded 20", INDEX, () -> full.recorded(20));
        for (int time = 0; time < 300; time++) {
            full.record();
        }
        check.same("often", full.recorded(19), 301);
    }

    private void known() {
        check.part("promise 14");
        Gliderwright world = placed("blinker", 4, 4, 0);
        check.same("without entries", world.known(), Gliderwright.NONE);
        world.record();
        world.tick(1);
        check.same("turned", world.known(), 0);
        check.same("known records nothing", world.recorded(0), 1);
        world.set(0, 1);
        check.same("another", world.known(), Gliderwright.NONE);
        world.record();
        check.same("the second", world.known(), 1);
        world.soup(1, 0, 0);
        check.same("empty", world.known(), Gliderwright.NONE);
        Gliderwright full = withTwentyEntries();
        check.same("the last of 20", full.known(), 19);
    }

    // ---- promises 15 and 16

    private void objects() {
        check.part("promise 15");
        check.same("none", new Gliderwright().objects(), 0);
        check.same("one", world(15, 32768).objects(), 1);
        check.same("corners", world(15, 32769, 32769).objects(), 1);
        check.same("by a corner", world(5, 1, 2, 4, 2, 1).objects(), 1);
        check.same("by a corner round the board", world(15, 32768, 1).objects(), 1);
        check.same("two rows apart", world(5, 1, 0, 1).objects(), 2);
        check.same("two columns apart", world(5, 5).objects(), 2);
        check.same("beacon", placed("beacon", 0, 0, 0).objects(), 2);
        Gliderwright many = new Gliderwright();
        for (int row = 0; row < 16; row += 2) {
            many.set(row, 21845);
        }
        check.same("as many as can be", many.objects(), 64);
        many.set(1, 1);
        check.same("two in one", many.objects(), 63);
        many.set(1, 2);
        check.same("four in one", many.objects(), 61);
        check.same("a long way", longWay().objects(), 2);
    }

    /** A way of 62 CELLS up and down that hangs together at its ends only, and one CELL within. */
    private static Gliderwright longWay() {
        Gliderwright world = new Gliderwright();
        for (int row = 1; row < 15; row++) {
            world.set(row, 1 << 1 | 1 << 5 | 1 << 9 | 1 << 13);
        }
        world.set(14, world.row(14) | 7 << 2 | 7 << 10);
        world.set(1, world.row(1) | 7 << 6);
        world.set(8, world.row(8) | 1 << 11);
        return world;
    }

    private void object() {
        check.part("promise 16");
        Gliderwright world = longWay();
        check.same("lowest of the long way", world.object(0, true), 17);
        check.same("size of the long way", world.object(0, false), 4 * 14 + 9);
        check.same("lowest of the other", world.object(1, true), 8 * 16 + 11);
        check.same("size of the other", world.object(1, false), 1);
        Gliderwright corner = world(15, 32769, 32769);
        check.same("lowest of the corners", corner.object(0, true), 0);
        check.same("size of the corners", corner.object(0, false), 4);
        Gliderwright three = world(0, 1 << 5, 0, 3 | 1 << 9, 0, 0, 0, 0, 0, 0, 0, 0, 0, 0, 0, 0, 1 << 6 | 1 << 15);
        check.same("how many", three.objects(), 4);
        check.same("the first, from the last row", three.object(0, true), 5);
        check.same("its size", three.object(0, false), 2);
        check.same("the second", three.object(1, true), 32);
        check.same("its size", three.object(1, false), 2);
        check.same("the third", three.object(2, true), 41);
        check.same("the fourth", three.object(3, true), 255);
        check.same("its size", three.object(3, false), 1);
        for (int object : new int[] {-1, 4, 63, 255, 256, MIN, MAX}) {
            refusedAndUnchanged("object " + object, INDEX, three, () -> three.object(object, true));
            check.refused("object " + object, INDEX, () -> three.object(object, false));
        }
        check.refused("object of an empty board", INDEX, () -> new Gliderwright().object(0, true));
        Gliderwright full = new Gliderwright();
        full.soup(0, 100, 0);
        check.same("the full board", full.object(0, false), 256);
        Gliderwright many = new Gliderwright();
        for (int row = 0; row < 16; row += 2) {
            many.set(row, 43690);
        }
        check.same("the last of 64", many.object(63, true), 14 * 16 + 15);
        check.refused("behind the last of 64", INDEX, () -> many.object(64, true));
    }

    // ---- promise 17

    /** By the seed 0 the seed becomes 12345, 62928, 19305: modulo 100 that is 45, 28 and 5. */
    private void soupDraws() {
        check.part("promise 17");
        int[][] densities = {{46, 7}, {45, 6}, {29, 6}, {28, 4}, {6, 4}, {5, 0}};
        for (int[] density : densities) {
            for (int symmetry = 0; symmetry <= 2; symmetry++) {
                Gliderwright world = new Gliderwright();
                int alive = world.soup(0, density[0], symmetry);
                check.same("the first three, density " + density[0], world.row(0) & 7, density[1]);
                check.same("how many, density " + density[0], alive, world.would(0));
            }
        }
        Gliderwright world = world(4, 99, 99, 99);
        check.same("nothing", world.soup(65535, 0, 0), 0);
        isBoard("nothing", world, 0);
        check.same("everything", world.soup(65535, 100, 2), 256);
        check.same("some", world.soup(1, 50, 0), 142);
        check.same("its first row", world.row(0), 43729);
    }

    private void soupSymmetries() {
        for (int symmetry = 0; symmetry <= 2; symmetry++) {
            boolean[][] due = new boolean[16][16];
            int seed = 4711;
            int alive = 0;
            for (int row = 0; row < (symmetry == 2 ? 8 : 16); row++) {
                for (int column = 0; column < (symmetry == 0 ? 16 : 8); column++) {
                    seed = (seed * 1103 + 12345) % 65536;
                    boolean isAlive = seed % 100 < 37;
                    due[row][column] = isAlive;
                    due[row][symmetry == 0 ? column : 15 - column] = isAlive;
                    due[symmetry == 2 ? 15 - row : row][column] = isAlive;
                    due[symmetry == 2 ? 15 - row : row][symmetry == 0 ? column : 15 - column] = isAlive;
                }
            }
            Gliderwright world = new Gliderwright();
            int answer = world.soup(4711, 37, symmetry);
            for (int row = 0; row < 16; row++) {
                int bits = 0;
                for (int column = 0; column < 16; column++) {
                    bits |= due[row][column] ? 1 << column : 0;
                }
                alive += Integer.bitCount(bits);
                check.same("symmetry " + symmetry + ", row " + row, world.row(row), bits);
            }
            check.same("symmetry " + symmetry, answer, alive);
        }
    }

    private void soupRefused() {
        Gliderwright world = placed("glider", 3, 3, 0);
        world.blocks(1, true);
        int[][] wrong = {{-1, 0, 0}, {65536, 0, 0}, {MIN, 0, 0}, {MAX, 0, 0}, {0, -1, 0}, {0, 101, 0}, {0, MIN, 0},
            {0, MAX, 0}, {0, 0, -1}, {0, 0, 3}, {0, 0, MIN}, {0, 0, MAX}};
        for (int[] three : wrong) {
            refusedAndUnchanged("soup " + Arrays.toString(three), ARGUMENT, world,
                    () -> world.soup(three[0], three[1], three[2]));
        }
        typed(world, "day").soup(65535, 100, 2);
        check.same("the phase behind a soup", phaseOf(world), 1);
        check.same("what is typed behind a soup", world.rule(), true);
    }

    // ---- promise 18

    private static int corner(Gliderwright world, int row, int column) {
        return (world.row(row) >> column & 1) | (world.row(row) >> (column + 1) % 16 & 1) << 1
                | (world.row((row + 1) % 16) >> column & 1) << 2
                | (world.row((row + 1) % 16) >> (column + 1) % 16 & 1) << 3;
    }

    private static Gliderwright withBlock(int row, int column, int block) {
        int behind = (column + 1) % 16;
        Gliderwright world = new Gliderwright();
        world.set(row, (block & 1) << column | (block >> 1 & 1) << behind);
        world.set((row + 1) % 16, (block >> 2 & 1) << column | (block >> 3 & 1) << behind);
        return world;
    }

    private void blocks() {
        check.part("promise 18");
        int[][] becomes = {{0, 0}, {1, 8}, {2, 4}, {4, 2}, {8, 1}, {6, 9}, {9, 6}, {3, 3}, {5, 5}, {10, 10}, {12, 12},
            {7, 7}, {11, 11}, {13, 13}, {14, 14}, {15, 15}};
        for (int[] one : becomes) {
            for (int at = 0; at < 16; at += 2) {
                Gliderwright even = withBlock(at, 14 - at, one[0]);
                check.same("forward", even.blocks(1, true), 1);
                check.same("block " + one[0] + " at " + at, corner(even, at, 14 - at), one[1]);
                Gliderwright odd = withBlock(at + 1, 15 - at, one[0]);
                check.same("back", odd.blocks(1, false), 1);
                check.same("block " + one[0] + " at " + (at + 1), corner(odd, at + 1, 15 - at), one[1]);
            }
        }
        Gliderwright walker = world(4, 64);
        check.same("one on its way", walker.blocks(3, true), 1);
        isBoard("one on its way", walker, 7, 512);
        Gliderwright world = placed("glider", 3, 3, 0);
        for (int steps : new int[] {0, -1, 201, MIN, MAX}) {
            refusedAndUnchanged("blocks " + steps, ARGUMENT, world, () -> world.blocks(steps, true));
            refusedAndUnchanged("blocks back " + steps, ARGUMENT, world, () -> world.blocks(steps, false));
        }
    }

    private void blocksBack() {
        Gliderwright world = new Gliderwright();
        world.soup(5, 40, 0);
        String before = told(world);
        check.same("far", world.blocks(200, true), 0);
        check.same("one more", world.blocks(1, true), 1);
        check.same("it went somewhere", told(world).equals(before), false);
        check.same("one back", world.blocks(1, false), 0);
        check.same("far back", world.blocks(200, false), 0);
        check.same("the board again", told(world), before);
        check.same("behind the first", world.blocks(3, false), 1);
        check.same("and on", world.blocks(3, true), 0);
        check.same("the board once more", told(world), before);
        world.blocks(1, true);
        world.set(0, 1);
        world.tick(1);
        world.table(0, 0);
        typed(world, "block").place(0, 0, 0);
        check.same("nothing else changes the phase", world.blocks(2, true), 1);
    }

    // ---- promises 19 and 20

    private void mark() {
        check.part("promise 19");
        Gliderwright world = placed("glider", 1, 1, 0);
        for (int many = 1; many <= 8; many++) {
            String before = told(world);
            check.same("mark", world.mark(), many);
            check.same("the board behind", told(world), before);
            world.tick(1);
        }
        refusedAndUnchanged("the ninth", STATE, world, world::mark);
        check.same("undo", world.undo(), 7);
        check.same("one again", world.mark(), 8);
        check.refused("and no more", STATE, world::mark);
    }

    private void undo() {
        check.part("promise 20");
        Gliderwright world = typed(new Gliderwright(), "blin");
        refusedAndUnchanged("without a mark", STATE, world, world::undo);
        String[] boards = new String[8];
        for (int mark = 0; mark < 8; mark++) {
            world.soup(mark, 30, 0);
            if (mark % 3 == 0) {
                world.blocks(1, true);
            }
            boards[mark] = told(world) + phaseOf(world);
            world.mark();
        }
        world.table(4, 0);
        world.soup(99, 60, 1);
        world.record();
        for (int mark = 7; mark >= 0; mark--) {
            world.blocks(1, mark % 2 == 0);
            check.same("undo", world.undo(), mark);
            check.same("the board and the phase of " + mark, told(world) + phaseOf(world), boards[mark]);
        }
        refusedAndUnchanged("behind the first", STATE, world, world::undo);
        check.same("the catalog stays", world.recorded(0), 1);
        check.same("what is typed stays", world.type('k'), 5);
        isRule("the rule stays", world, "2", "");
        Gliderwright later = placed("block", 0, 0, 0);
        later.mark();
        later.set(5, 7);
        later.undo();
        isBoard("what came behind the mark is gone", later, 0, 3, 3);
        later.set(9, 1);
        later.mark();
        later.set(9, 0);
        later.undo();
        isBoard("a mark in the place of another", later, 0, 3, 3, 0, 0, 0, 0, 0, 0, 0, 1);
    }

    // ---- promises 21 to 24

    private void isRing(int number, int many, int ring, int ticks, int due) {
        check.same("ring " + number + " " + many + " " + ring + " " + ticks,
                new Gliderwright().ring(number, many, ring, ticks), due);
    }

    private void ring() {
        check.part("promise 21");
        isRing(110, 5, 1, 1, 17);
        isRing(110, 5, 1, 0, 1);
        isRing(90, 6, 4, 2, 17);
        isRing(30, 3, 1, 1, 7);
        isRing(16, 12, 1, 1, 2);
        isRing(2, 12, 1, 1, 2048);
        isRing(4, 12, 1, 1, 1);
        isRing(1, 12, 0, 1, 4095);
        isRing(1, 12, 0, 1000, 0);
        isRing(1, 3, 0, 999, 7);
        isRing(128, 12, 4095, 1000, 4095);
        isRing(64, 12, 3, 1, 2);
        isRing(32, 5, 5, 1, 2);
        isRing(8, 12, 3, 1, 1);
        isRing(240, 3, 4, 1, 1);
        isRing(170, 3, 1, 1, 4);
        isRing(240, 12, 5, 1000, 80);
        isRing(0, 12, 4095, 1, 0);
        isRing(255, 4, 0, 1, 15);
        isRing(204, 7, 127, 1000, 127);
        isRing(51, 4, 5, 1, 10);
    }

    private void parents() {
        check.part("promises 22 to 24");
        Gliderwright world = new Gliderwright();
        int[][] due = {{90, 6, 0, 4, 0}, {90, 5, 1, 0, -1}, {90, 6, 20, 4, 8}, {110, 4, 5, 0, -1}, {204, 12, 77, 1, 77},
            {170, 3, 1, 1, 2}, {240, 3, 1, 1, 4}, {255, 12, 4095, 4096, 0}, {0, 12, 0, 4096, 0}, {0, 12, 1, 0, -1},
            {0, 3, 7, 0, -1}, {255, 3, 7, 8, 0}, {51, 4, 15, 1, 0}, {51, 12, 0, 1, 4095}, {128, 3, 7, 1, 7},
            {128, 4, 1, 1, 11}, {254, 3, 0, 1, 0}, {254, 3, 7, 7, 1}, {170, 12, 2048, 1, 1}, {240, 12, 1, 1, 2048}};
        for (int[] one : due) {
            String told = " " + one[0] + " " + one[1] + " " + one[2];
            check.same("parents" + told, world.parents(one[0], one[1], one[2]), one[3]);
            check.same("parentsAnew" + told, world.parentsAnew(one[0], one[1], one[2]), one[3]);
            check.same("parent" + told, world.parent(one[0], one[1], one[2]), one[4]);
        }
        Gliderwright other = new Gliderwright();
        int all = 0;
        for (int ring = 0; ring < 128; ring++) {
            int parents = other.parents(110, 7, ring);
            all += parents;
            check.same("by the other way, ring " + ring, other.parentsAnew(110, 7, ring), parents);
            int parent = other.parent(110, 7, ring);
            check.same("without parents, ring " + ring, parent == Gliderwright.NONE, parents == 0);
            if (parent != Gliderwright.NONE) {
                check.same("a parent of " + ring, new Gliderwright().ring(110, 7, parent, 1), ring);
            }
        }
        check.same("each ring is the parent of one", all, 128);
    }

    private void ringsRefused() {
        Gliderwright world = placed("ship", 3, 3, 0);
        int[][] wrong = {{-1, 3, 0}, {256, 3, 0}, {MIN, 3, 0}, {MAX, 3, 0}, {0, 2, 0}, {0, 13, 0}, {0, 0, 0},
            {0, -1, 0}, {0, 35, 0}, {0, MIN, 0}, {0, MAX, 0}, {0, 3, -1}, {0, 3, 8}, {0, 12, 4096}, {0, 12, MIN},
            {0, 12, MAX}, {256, 2, -1}};
        for (int[] one : wrong) {
            String told = Arrays.toString(one);
            refusedAndUnchanged("ring " + told, ARGUMENT, world, () -> world.ring(one[0], one[1], one[2], 1));
            check.refused("parents " + told, ARGUMENT, () -> world.parents(one[0], one[1], one[2]));
            check.refused("parentsAnew " + told, ARGUMENT, () -> world.parentsAnew(one[0], one[1], one[2]));
            check.refused("parent " + told, ARGUMENT, () -> world.parent(one[0], one[1], one[2]));
        }
        for (int ticks : new int[] {-1, 1001, MIN, MAX}) {
            check.refused("ring, ticks " + ticks, ARGUMENT, () -> world.ring(0, 3, 0, ticks));
        }
    }
}
