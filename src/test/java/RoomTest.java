import com.sun.management.ThreadMXBean;
import java.lang.management.ManagementFactory;
import java.util.function.IntUnaryOperator;

/**
 * All calls of a run live in one room of 600,000 objects and arrays and 7.3 million fields and elements. What takes no
 * more bytes than so many objects of the least size are within both.
 */
public final class RoomTest {
    private static final ThreadMXBean THREADS = (ThreadMXBean) ManagementFactory.getThreadMXBean();
    private static final long ROOM = 600_000L * 16;
    private static final int CALLS = 512;
    /** Few enough for two calls each, behind the calls that make a full farm. */
    private static final int ROUNDS = 150;

    public static void main(String[] args) {
        runs("simulate", x -> call -> x.simulate(call, 30));
        runs("runScript", x -> call -> x.runScript(4, 4000_1040_4000_6011L));
        runs("bestSkip", x -> call -> x.bestSkip());
        runs("bestMore", x -> call -> x.bestMore());
        runs("pack", x -> call -> x.setHarvest(call % 5, 40) + x.pack());
        runs("undo", x -> call -> x.skip(call % 6, true) + x.undo());
        runs("load", x -> call -> x.load() + x.errorPosition());
        runs("save", x -> call -> x.save(call % 2) + x.restore(call % 2));
        runs("ask", x -> call -> x.order(5) + x.house(5, 5));
        Check.end("RoomTest");
    }

    /** An object, ready to be called with a number. */
    private interface Run {
        IntUnaryOperator on(HarvestBoxes x);
    }

    /** The object itself, and as many of these calls as it can be used for. */
    private static void runs(String what, Run run) {
        // The first round loads what the Java machine itself needs.
        bytesOfCalls(run);
        long bytes = bytesOfNew() + bytesOfCalls(run) * CALLS / ROUNDS;
        Check.holds(bytes + " bytes for calls of " + what + " are within the room", bytes < ROOM);
    }

    private static long bytesSoFar() {
        return THREADS.getThreadAllocatedBytes(Thread.currentThread().getId());
    }

    private static long bytesOfNew() {
        long before = bytesSoFar();
        HarvestBoxes x = new HarvestBoxes();
        long made = bytesSoFar() - before;
        return x.about(0) == 0 ? made : Long.MAX_VALUE;
    }

    private static long bytesOfCalls(Run run) {
        IntUnaryOperator call = run.on(Twins.full());
        int sum = 0;
        long before = bytesSoFar();
        for (int round = 0; round < ROUNDS; round++) {
            sum += call.applyAsInt(round);
        }
        long made = bytesSoFar() - before;
        Check.holds("the calls answer", sum != Integer.MIN_VALUE);
        return made;
    }
}
