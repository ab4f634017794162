import java.util.LinkedHashMap;
import java.util.Map;

/**
 * All that can be told of an object from outside, part by part. What is typed, the RULE and the MARKS
 * are told only by using them up, so that an object that was told is of no more use.
 */
final class Told {
    static final String ROWS = "rows";
    static final String PHASE = "phase";
    static final String TYPED = "typed";
    static final String CATALOG = "catalog";
    static final String MARKS = "marks";
    static final String RULE = "rule";

    private final Gliderwright world;
    private final Map<String, String> parts = new LinkedHashMap<>();

    private Told(Gliderwright world) {
        this.world = world;
    }

    static Map<String, String> of(Gliderwright world) {
        Told told = new Told(world);
        told.parts.put(ROWS, Worlds.told(world));
        told.parts.put(PHASE, "" + Worlds.phaseOf(world));
        told.parts.put(TYPED, told.typed());
        told.parts.put(CATALOG, told.catalog());
        told.parts.put(MARKS, told.marks());
        told.parts.put(RULE, Worlds.ruleOf(world));
        return told.parts;
    }

    /** What is typed is nothing, the word of a glider but for the last letter, or of no use. */
    private String typed() {
        world.soup(0, 0, 0);
        return Check.answerOf(() -> world.type('r')) + " " + world.place(0, 0, 0) + " " + Worlds.told(world);
    }

    private String catalog() {
        StringBuilder entries = new StringBuilder();
        for (int entry = 0; entry <= 20; entry++) {
            int one = entry;
            entries.append(Check.answerOf(() -> world.recorded(one))).append(' ');
        }
        world.soup(0, 0, 0);
        for (int bits : Worlds.RECORDED) {
            world.set(3, bits);
            entries.append(world.known()).append(' ');
        }
        return entries.toString();
    }

    private String marks() {
        StringBuilder marks = new StringBuilder();
        for (int mark = 0; mark <= 8; mark++) {
            Object left = Check.answerOf(world::undo);
            marks.append(left).append(' ');
            if (!(left instanceof Integer)) {
                break;
            }
            marks.append(Worlds.told(world)).append(Worlds.phaseOf(world)).append(' ');
        }
        return marks.toString();
    }
}
