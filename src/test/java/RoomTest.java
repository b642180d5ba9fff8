import java.lang.management.ManagementFactory;

/**
 * All calls of a run share one room of some 600,000 objects and 7.3 million fields. The dearest runs of 512
 * calls must stay far below it, so that a call that makes a new object for each row or entry is found here.
 */
final class RoomTest {
    private static final int CALLS = 512;
    // Less than a twentieth of the room, at 4 bytes a field.
    private static final long MOST_BYTES = 1_000_000;

    private static final com.sun.management.ThreadMXBean THREADS =
            (com.sun.management.ThreadMXBean) ManagementFactory.getThreadMXBean();

    interface Call {
        void on(JacquardDeck x);
    }

    public static void main(String[] args) {
        dear("nothing more", x -> { });
        dear("weave and unweave", x -> {
            x.weave(60);
            x.unweave(0);
        });
        dear("recover", x -> {
            x.weave(60);
            x.recover();
        });
        dear("isSound", x -> x.isSound());
        dear("lots", x -> x.lots());
        dear("rightShare", x -> x.rightShare());
        dear("compile", x -> x.compile(0));
        dear("shared", x -> x.shared(0, 1));
        dear("wearOfThread", x -> x.wearOfThread(0, 10));
        dear("words", x -> {
            x.type('w');
            x.doWord();
        });
        Check.end();
    }

    private static long bytesSoFar() {
        return THREADS.getThreadAllocatedBytes(Thread.currentThread().getId());
    }

    /** Made twice, because the machine itself makes objects when a class is used first. */
    private static void dear(String name, Call call) {
        run(call);
        long before = bytesSoFar();
        run(call);
        long bytes = bytesSoFar() - before;
        if (bytes > MOST_BYTES) {
            Check.tell(name + " takes " + bytes + " bytes in " + CALLS + " calls");
        }
    }

    private static void run(Call call) {
        JacquardDeck x = loomWithMuch();
        // The loom takes 128 calls; a call here counts as two at most.
        for (int times = 0; times < (CALLS - 128) / 2; times++) {
            call.on(x);
        }
    }

    /** All thread that can come, a pattern of 24 rows in four colours, worn thread in stock, and 60 rows. */
    private static JacquardDeck loomWithMuch() {
        JacquardDeck x = new JacquardDeck();
        x.addPattern(24);
        for (int row = 0; row < 24; row++) {
            x.setRow(0, row, row, row % 4, 9);
        }
        x.compile(0);
        for (int cone = 0; cone < 48; cone++) {
            x.addCone(cone % 4, cone, 2000);
        }
        x.addOrder(0, 60);
        x.addOrder(0, 60);
        x.begin(0);
        for (int time = 0; time < 25; time++) {
            x.weave(60);
            x.unweave(0);
        }
        x.weave(60);
        return x;
    }
}
