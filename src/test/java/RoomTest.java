import java.lang.management.ManagementFactory;

/** The dearest 512 calls stay within the room of one run, 7.3 million elements, and end soon. */
public final class RoomTest {
    /** 8 bytes for each element of the room. */
    private static final long BYTES_MOST = 8 * 7_300_000;

    public static void main(String[] args) {
        manyFurtherWays();
        moreBridgesEachTime();
        Check.end();
    }

    private static long bytes() {
        return ((com.sun.management.ThreadMXBean) ManagementFactory.getThreadMXBean()).getCurrentThreadAllocatedBytes();
    }

    private static void manyFurtherWays() {
        long before = bytes();
        CorridorCells c = new CorridorCells(12, 12);
        int calls = 1;
        boolean told = c.moves(2, 9999, 8);
        for (int i = 0; i < 144; i++) {
            told &= c.cell(i % 12, i / 12, 1 + i * 37 % 10, 0);
            calls++;
        }
        for (; calls + 6 <= 512; calls += 6) {
            told &= c.run(0, 0, 11, 11, 100000) > 0;
            for (int i = 0; i < 5; i++) {
                told &= c.unlike(1, 1) > 0;
            }
        }
        Check.due("all ways are found", told, true);
        Check.due("further ways take few bytes", bytes() - before < BYTES_MOST, true);
    }

    /** Each bridge makes more labels, so that the rows grow again and again. */
    private static void moreBridgesEachTime() {
        long before = bytes();
        CorridorCells c = new CorridorCells(12, 12);
        boolean told = c.moves(2, 9999, 1);
        for (int i = 1; i < 120; i++) {
            if (i % 13 != 0) {
                told &= c.bridge(i % 12, i / 12, 3, i % 5) && c.bar(i % 12, i / 12);
                told &= c.run(0, 0, 11, 11, 100000) > 0;
                told &= c.unlike(1, 1) != -3;
            }
        }
        Check.due("bridges are told", told, true);
        Check.due("bridges take few bytes", bytes() - before < BYTES_MOST, true);
    }
}
