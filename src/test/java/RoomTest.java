import com.sun.management.ThreadMXBean;
import java.lang.management.ManagementFactory;

/** A call that answers makes no objects: all rows are made by the constructor. */
public final class RoomTest {
    private static final ThreadMXBean THREADS = (ThreadMXBean) ManagementFactory.getThreadMXBean();
    private static final String TEXT = "Fh10h20h30h40h10h20v40v39v38v37v36l009l111l222l333l444l540l520l248l148l017";

    public static void main(String[] args) {
        HarvestBoxes x = Check.farm(TEXT);
        // The first round loads what the Java machine itself needs.
        allCalls(x, 1);
        long before = bytes();
        allCalls(x, 40);
        long made = bytes() - before;
        Check.same("bytes of 40 rounds, " + made, made < 4000 ? 1 : 0, 1);
        Check.same("bytes of a new object", bytesOfNew() < 40000 ? 1 : 0, 1);
        Check.end("RoomTest");
    }

    private static long bytes() {
        return THREADS.getThreadAllocatedBytes(Thread.currentThread().getId());
    }

    private static long bytesOfNew() {
        long before = bytes();
        HarvestBoxes x = new HarvestBoxes();
        long made = bytes() - before;
        return x.about(0) == 0 ? made : Long.MAX_VALUE;
    }

    private static void allCalls(HarvestBoxes x, int rounds) {
        int sum = 0;
        for (int round = 0; round < rounds; round++) {
            x.clearText();
            for (int i = 0; i < TEXT.length(); i++) {
                sum += x.append(TEXT.charAt(i));
            }
            sum += x.errorPosition() + x.load() + x.bestSkip() + x.bestMore() + x.wouldBe(1) + x.wouldGet(1, 1);
            sum += x.simulate(round, 30) + x.runScript(4, 4000_1040_4000_6011L) + x.firstSwap() + x.save(0) + x.save(1);
            sum += x.pack() + x.give(0, 0, 1) + x.returnCrates(0, 1) + x.setHarvest(0, 40) + x.setLiking(0, 0, 3);
            sum += x.skip(0, true) + x.order(2) + x.about(3) + x.house(1, 5) + x.vegetable(1, 3) + x.box(1, 1);
            sum += x.liking(1, 1) + x.undo() + x.restore(1) + x.pack() + x.pack();
        }
        Check.same("the calls answer", sum != 0 ? 1 : 0, 1);
    }
}
