import com.sun.management.ThreadMXBean;
import java.lang.management.ManagementFactory;

/** How much the calls of one run make: far less than the room of one run, which is for all of them. */
public final class RoomTest {
    private static final int CALLS = 512;
    /** A text of eight letters by each call is some 30,000; what a call makes in a loop would be more. */
    private static final long MOST_BYTES = 100_000;

    public static void main(String[] args) {
        Check check = new Check();
        check.part("room");
        measure(check, "new", () -> new Gliderwright().row(0), CALLS / 16, 16 * MOST_BYTES);
        Gliderwright world = new Gliderwright();
        world.soup(3, 40, 0);
        measure(check, "type and rule", () -> world.type('l') + world.type('x') + (world.rule() ? 1 : 0));
        measure(check, "type and place", () -> world.type('b') + world.place(1, 1, 1));
        measure(check, "would", () -> world.would(200));
        measure(check, "nature", () -> world.nature(64, 2));
        measure(check, "record", () -> world.record());
        measure(check, "known", () -> world.known());
        measure(check, "canon", () -> world.canon(15));
        measure(check, "objects", () -> world.objects());
        measure(check, "object", () -> world.object(0, false));
        measure(check, "soup", () -> world.soup(3, 40, 2));
        measure(check, "blocks", () -> world.blocks(200, true));
        measure(check, "mark and undo", () -> world.mark() + world.undo());
        measure(check, "ring", () -> world.ring(110, 12, 1, 1000));
        measure(check, "parents", () -> world.parents(110, 12, 77));
        measure(check, "parentsAnew", () -> world.parentsAnew(110, 12, 77));
        measure(check, "parent", () -> world.parent(110, 12, 77));
        measure(check, "tick", () -> world.tick(200));
        check.end();
    }

    private interface Numbered {
        int number();
    }

    private static void measure(Check check, String name, Numbered call) {
        measure(check, name, call, CALLS, MOST_BYTES);
    }

    private static void measure(Check check, String name, Numbered call, int times, long most) {
        ThreadMXBean threads = (ThreadMXBean) ManagementFactory.getThreadMXBean();
        long self = Thread.currentThread().getId();
        long sum = call.number();
        long before = threads.getThreadAllocatedBytes(self);
        for (int time = 0; time < times; time++) {
            sum += call.number();
        }
        long made = threads.getThreadAllocatedBytes(self) - before;
        check.same(name + " makes " + made + " bytes, is that little (" + sum + ")", made <= most, true);
    }
}
