import java.util.Random;

/** Runs of calls by fixed seeds, each call made of the class and of the Model; all answers must agree. */
public final class RandomRunsTest {
    private static final int RUNS = 160;
    private static final int CALLS = 512;
    private static final String[] WORDS = {"life", "seeds", "high", "maze", "day",
        "block", "blinker", "glider", "beacon", "ship", "glide", "gliders", "lifes", "a", ""};
    private static final int[] FAR = {-1, -16, Integer.MIN_VALUE, Integer.MAX_VALUE, 1 << 16, 1 << 20, 33};

    private final Random random;
    private final Gliderwright made = new Gliderwright();
    private final Model due = new Model();
    private final Check check;

    private RandomRunsTest(int run, Check check) {
        random = new Random(run);
        this.check = check;
        check.part("run " + run);
    }

    public static void main(String[] args) {
        Check check = new Check();
        for (int run = 0; run < RUNS && check.wrong() == 0; run++) {
            RandomRunsTest one = new RandomRunsTest(run, check);
            boolean isSparse = run % 2 == 0;
            for (int call = 0; call < CALLS && check.wrong() == 0; call++) {
                one.step(call, isSparse);
            }
        }
        check.end();
    }

    private void both(String call, Check.Call ofMade, Check.Call ofDue) {
        check.same(call, Check.answerOf(ofMade), Check.answerOf(ofDue));
    }

    /** Mostly from least to most, now and then one beside these, or far off. */
    private int number(int least, int most) {
        int dice = random.nextInt(60);
        if (dice == 0) {
            return FAR[random.nextInt(FAR.length)];
        }
        if (dice <= 2) {
            return dice == 1 ? least - 1 : most + 1;
        }
        if (dice <= 6) {
            return dice % 2 == 0 ? least : most;
        }
        return least + random.nextInt(most - least + 1);
    }

    private void step(int call, boolean isSparse) {
        switch (random.nextInt(24)) {
            case 0 -> letters();
            case 1 -> both(call + " rule()", made::rule, due::rule);
            case 2 -> table(call);
            case 3, 4 -> place(call);
            case 5 -> set(call);
            case 6 -> row(call);
            case 7 -> tick(call);
            case 8 -> would(call);
            case 9, 10 -> nature(call);
            case 11 -> canon(call);
            case 12 -> both(call + " record()", made::record, due::record);
            case 13 -> recorded(call);
            case 14 -> both(call + " known()", made::known, due::known);
            case 15 -> both(call + " objects()", made::objects, due::objects);
            case 16 -> object(call);
            case 17 -> soup(call, isSparse);
            case 18 -> blocks(call);
            case 19 -> both(call + " mark()", made::mark, due::mark);
            case 20 -> both(call + " undo()", made::undo, due::undo);
            case 21 -> ring(call);
            case 22 -> parents(call);
            default -> clearRows(isSparse);
        }
    }

    private void letters() {
        String word = WORDS[random.nextInt(WORDS.length)];
        for (char letter : word.toCharArray()) {
            both("type " + letter, () -> made.type(letter), () -> due.type(letter));
        }
        if (random.nextInt(4) == 0) {
            char letter = random.nextBoolean() ? (char) random.nextInt(65536) : "`{AZ az".charAt(random.nextInt(7));
            both("type " + (int) letter, () -> made.type(letter), () -> due.type(letter));
        }
        if (random.nextInt(3) == 0) {
            both("rule()", made::rule, due::rule);
        }
    }

    private void table(int call) {
        int births = random.nextInt(3) == 0 ? number(0, 511) : number(0, 511) & ~3;
        int stays = number(0, 511);
        both(call + " table(" + births + ", " + stays + ")", () -> {
            made.table(births, stays);
            return 0;
        }, () -> {
            due.table(births, stays);
            return 0;
        });
    }

    private void place(int call) {
        if (random.nextInt(3) > 0) {
            both(call + " rule()", made::rule, due::rule);
            String word = WORDS[5 + random.nextInt(5)];
            for (char letter : word.toCharArray()) {
                both("type " + letter, () -> made.type(letter), () -> due.type(letter));
            }
        }
        int row = number(0, 15);
        int column = number(0, 15);
        int turns = number(0, 3);
        both(call + " place(" + row + ", " + column + ", " + turns + ")",
                () -> made.place(row, column, turns), () -> due.place(row, column, turns));
    }

    private void set(int call) {
        int row = number(0, 15);
        int bits = random.nextBoolean() ? number(0, 65535) : 1 << random.nextInt(16);
        both(call + " set(" + row + ", " + bits + ")", () -> made.set(row, bits), () -> due.set(row, bits));
    }

    private void row(int call) {
        int row = number(0, 15);
        both(call + " row(" + row + ")", () -> made.row(row), () -> due.row(row));
    }

    private void tick(int call) {
        int ticks = random.nextInt(4) == 0 ? number(1, 200) : number(1, 9);
        both(call + " tick(" + ticks + ")", () -> made.tick(ticks), () -> due.tick(ticks));
    }

    private void would(int call) {
        int ticks = random.nextInt(4) == 0 ? number(0, 200) : number(0, 9);
        both(call + " would(" + ticks + ")", () -> made.would(ticks), () -> due.would(ticks));
    }

    private void nature(int call) {
        int ticks = random.nextInt(4) == 0 ? number(1, 64) : number(1, 6);
        int what = number(0, 3);
        both(call + " nature(" + ticks + ", " + what + ")",
                () -> made.nature(ticks, what), () -> due.nature(ticks, what));
    }

    private void canon(int call) {
        int row = number(0, 15);
        both(call + " canon(" + row + ")", () -> made.canon(row), () -> due.canon(row));
    }

    private void recorded(int call) {
        int entry = number(0, 19);
        both(call + " recorded(" + entry + ")", () -> made.recorded(entry), () -> due.recorded(entry));
    }

    private void object(int call) {
        int object = random.nextBoolean() ? number(0, 4) : number(0, 63);
        boolean isLowest = random.nextBoolean();
        both(call + " object(" + object + ", " + isLowest + ")",
                () -> made.object(object, isLowest), () -> due.object(object, isLowest));
    }

    private void soup(int call, boolean isSparse) {
        int seed = number(0, 65535);
        int density = isSparse ? number(0, 30) : number(0, 100);
        int symmetry = number(0, 2);
        both(call + " soup(" + seed + ", " + density + ", " + symmetry + ")",
                () -> made.soup(seed, density, symmetry), () -> due.soup(seed, density, symmetry));
    }

    private void blocks(int call) {
        int steps = random.nextInt(4) == 0 ? number(1, 200) : number(1, 5);
        boolean isForward = random.nextBoolean();
        both(call + " blocks(" + steps + ", " + isForward + ")",
                () -> made.blocks(steps, isForward), () -> due.blocks(steps, isForward));
    }

    private void ring(int call) {
        int number = number(0, 255);
        int many = number(3, 12);
        int ring = ringOf(many);
        int ticks = random.nextInt(4) == 0 ? number(0, 1000) : number(0, 9);
        both(call + " ring(" + number + ", " + many + ", " + ring + ", " + ticks + ")",
                () -> made.ring(number, many, ring, ticks), () -> due.ring(number, many, ring, ticks));
    }

    private void parents(int call) {
        int number = number(0, 255);
        int many = number(3, 12);
        int drawn = ringOf(many);
        Object child = Check.answerOf(() -> due.ring(number, many, drawn, 1));
        int ring = child instanceof Integer && random.nextBoolean() ? (Integer) child : drawn;
        String told = "(" + number + ", " + many + ", " + ring + ")";
        both(call + " parents" + told, () -> made.parents(number, many, ring), () -> due.parents(number, many, ring));
        both(call + " parentsAnew" + told,
                () -> made.parentsAnew(number, many, ring), () -> due.parentsAnew(number, many, ring));
        both(call + " parent" + told, () -> made.parent(number, many, ring), () -> due.parent(number, many, ring));
    }

    private int ringOf(int many) {
        return many >= 3 && many <= 12 ? number(0, (1 << many) - 1) : number(0, 7);
    }

    /** Leaves a few CELLS alone, so that what comes next has a NATURE that is worth a look. */
    private void clearRows(boolean isSparse) {
        for (int row = 0; row < 16; row++) {
            int at = row;
            int bits = isSparse || random.nextInt(8) > 0 ? 0 : random.nextInt(65536);
            both("set(" + at + ", " + bits + ")", () -> made.set(at, bits), () -> due.set(at, bits));
        }
    }
}
