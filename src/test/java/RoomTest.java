import com.sun.management.ThreadMXBean;
import java.lang.management.ManagementFactory;

/**
 * All calls of a run together have room for some 600,000 objects and 7.3 million elements. An object has at least 16
 * bytes here and an element at least one, so that a run within this many bytes is far within the room.
 */
public final class RoomTest {
    private static final long MOST_BYTES = 4_000_000;
    private static final int CALLS = 512;
    private static final ThreadMXBean MEMORY = (ThreadMXBean) ManagementFactory.getThreadMXBean();

    private RoomTest() {
    }

    public static void main(String[] args) {
        ButtonRegistry full = full();
        Check.Call[] calls = {ButtonRegistry::new, full::isConsistent, full::bestDocket, full::bestDocketBySets,
            full::fewestTransfers, full::fewestTransfersByTrial, full::forestTension, full::forestTensionByGrowth,
            () -> full.passDays(1), () -> full.setBond(0, 1, 5), () -> full.hear(0), () -> full.nearestPrecedent(0),
            full::save, () -> full.renderCase(0), () -> full.renderBonds(0), () -> full.caseByClaim(11),
            () -> full.buttonByBalance(7), full::runScript, () -> full.strain(0, 7), () -> full.strainByTable(0, 7),
            () -> full.distance(0, 0), () -> full.distanceByEnds(0, 0), full::restore, full::undo};
        for (int i = 0; i < calls.length; i++) {
            bytesOf(calls[i]);
            long bytes = bytesOf(calls[i]);
            Check.same("call " + i + " takes little room, not " + bytes + " bytes", true, bytes < MOST_BYTES);
        }
        Check.finish();
    }

    private static long bytesOf(Check.Call call) {
        long before = MEMORY.getCurrentThreadAllocatedBytes();
        for (int i = 0; i < CALLS; i++) {
            try {
                call.run();
            } catch (RuntimeException fault) {
                continue;
            }
        }
        return MEMORY.getCurrentThreadAllocatedBytes() - before;
    }

    private static ButtonRegistry full() {
        ButtonRegistry registry = Make.withButtons(8);
        for (int i = 0; i < 19; i++) {
            Make.precedent(registry, "abcdefgh", 100);
        }
        for (int i = 0; i < 7; i++) {
            registry.hear(Make.file(registry, "bacdhgfe", i, 7, 1 + i * 13, 1, 99));
            registry.close(i);
        }
        for (int i = 0; i < 12; i++) {
            Make.file(registry, "hgfedcba", i % 8, (i + 1) % 8, 99 - i, 5, 999);
        }
        return registry;
    }
}
