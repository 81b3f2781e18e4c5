import java.lang.management.ManagementFactory;

/** A run of calls makes objects where something is added, and nowhere else. */
public final class RoomTests {
    private static final int CALLS = 500;

    private static final com.sun.management.ThreadMXBean ROOM =
            (com.sun.management.ThreadMXBean) ManagementFactory.getThreadMXBean();

    private static final Checks CHECKS = new Checks();

    public static void main(String[] args) {
        // The classes are loaded by then.
        full().digest();
        bytesOf("the first count", () -> 0);
        CHECKS.due("a new object takes less than 20,000 bytes", true, () -> bytesOf("new", Thimble::new) < 20_000);
        Thimble x = full();
        never("digest", x::digest);
        never("answers", () -> x.answers(31));
        never("answer", () -> x.answer(31, 0, 0));
        never("answersWith", () -> x.answersWith(31, 0, 7, 7, 7));
        never("share", () -> (long) x.share(31));
        never("tells", () -> x.tells(7));
        never("row", () -> x.row(7, 0, 0));
        never("order", () -> x.order(7, 4, 1));
        never("image", () -> x.image(7, 6, 0));
        never("ofRule", () -> x.ofRule(7, 2));
        CHECKS.end("RoomTests");
    }

    /** All that an object can keep. */
    private static Thimble full() {
        Thimble x = new Thimble();
        for (int r = 0; r < 6; r++) {
            x.relation(3);
            for (int k = 0; k < 24; k++) {
                x.fact(r, k % 8, k / 3, (k * 5 + r) % 8);
            }
        }
        for (int f = 0; f < 30; f++) {
            x.atom(f % 6, f % 4, (f + 1) % 4, (f + 2) % 4);
        }
        x.join(false, 0, 1);
        x.bind(true, 3, 30);
        for (int f = 32; f < 40; f++) {
            x.same(0, f % 6);
        }
        for (int r = 0; r < 8; r++) {
            x.rule(1, 0, 0, 0);
            for (int k = 0; k < 5; k++) {
                x.add(r, r % 6, k % 2, 2, 3 + k % 3);
            }
        }
        return x;
    }

    private interface Work {
        Object done();
    }

    private interface Number {
        long told();
    }

    private static long bytesOf(String what, Work work) {
        work.done();
        long before = ROOM.getThreadAllocatedBytes(Thread.currentThread().getId());
        Object kept = work.done();
        long bytes = ROOM.getThreadAllocatedBytes(Thread.currentThread().getId()) - before;
        return kept == what ? 0 : bytes;
    }

    private static void never(String what, Number call) {
        long[] sum = {0};
        Work work = () -> {
            for (int k = 0; k < CALLS; k++) {
                sum[0] += call.told();
            }
            return sum;
        };
        CHECKS.due(CALLS + " calls of " + what + " make nothing", true, () -> bytesOf(what, work) < CALLS);
    }
}
