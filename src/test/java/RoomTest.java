import java.lang.management.ManagementFactory;

/** An object's 512 dearest calls stay far below the room that all calls of a run share. */
public final class RoomTest {
    private static final Check CHECK = new Check("RoomTest");
    private static final int MOST_CALLS = 512;
    // 7.3 million fields and elements of four bytes; one object is to take a tenth of that at most.
    private static final long MOST_BYTES = 7_300_000L * 4 / 10;

    private static long made() {
        return ((com.sun.management.ThreadMXBean) ManagementFactory.getThreadMXBean()).getThreadAllocatedBytes(Thread.currentThread().getId());
    }

    public static void main(String[] args) {
        String law = "slip 9 if " + "1+".repeat(180) + "1<2";
        PencilUp laws = Check.evening("word ab often 1;writer speed 1;speech 0 0 0 0 0 0");
        long before = made();
        for (int k = 0; k < MOST_CALLS / 20; k++) {
            Check.tell(laws, law);
            laws.law();
        }
        CHECK.is("room of laws", true, made() - before < MOST_BYTES);

        PencilUp x = Check.evening("word ab often 1;word b often 1;writer speed 1;speech 0 0 0 0 0 0", "slip 9 if kept");
        before = made();
        for (int k = 0; k < MOST_CALLS / 8; k++) {
            x.tempo(1 + k % 9);
            x.image();
            x.span(60, true);
            x.trial(60, true);
            x.leaves(3, true);
            x.keep();
            x.codes();
            x.ask();
        }
        CHECK.is("room of dear calls", true, made() - before < MOST_BYTES);

        before = made();
        for (int k = 0; k < 100; k++) {
            new PencilUp();
        }
        CHECK.is("room of a hundred objects", true, made() - before < 10 * MOST_BYTES);
        CHECK.finish();
    }
}
