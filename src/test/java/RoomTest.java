import java.lang.management.ManagementFactory;

/**
 * What the dearest runs make stays far below the room that one run has: 600,000 objects and arrays, 7.3 million
 * fields and elements. Bytes are measured, at four an element; a run that makes nothing but objects counts too.
 */
public final class RoomTest {
    private static final long ELEMENTS = 7_300_000;
    private static final int CALLS = 512;
    private static final com.sun.management.ThreadMXBean THREADS =
            (com.sun.management.ThreadMXBean) ManagementFactory.getThreadMXBean();

    public static void main(String[] args) {
        Due due = new Due("RoomTest");
        due.holds("512 objects", bytesOf(RoomTest::makeObjects) < 4 * ELEMENTS);
        due.holds("a TAPE of short FRAMES, again and again", bytesOf(RoomTest::sound) < 4 * ELEMENTS / 4);
        due.holds("decode() at a part of a FRAME", bytesOf(RoomTest::ask) < 4 * ELEMENTS / 20);
        due.close();
    }

    private static long bytesOf(Runnable run) {
        // Once unmeasured, so that what classes take at their first use doesn't count.
        run.run();
        long before = THREADS.getCurrentThreadAllocatedBytes();
        run.run();
        return THREADS.getCurrentThreadAllocatedBytes() - before;
    }

    private static void makeObjects() {
        int answers = 0;
        for (int n = 0; n < CALLS; n++) {
            answers += new SoundBench().count(0);
        }
        if (answers != 0) {
            throw new IllegalStateException("new objects have " + answers + " bytes");
        }
    }

    /** Joint FRAMES of 32 bytes, two CHANNELS: as many PCM samples as bytes can have. */
    private static void sound() {
        SoundBench x = new SoundBench();
        int header = new FrameWriter(1, 1, 1, 1).header();
        for (int calls = 1; calls < CALLS; calls++) {
            // Eight calls of 20 bytes are five FRAMES.
            int word = 5 * (calls - 1) % 8;
            int fed = x.feed(wordAt(header, word), wordAt(header, word + 1), wordAt(header, word + 2),
                    wordAt(header, word + 3), wordAt(header, word + 4));
            if (fed == SoundBench.NONE) {
                for (int k = 0; k < 4; k++) {
                    x.decode();
                }
                if (x.count(5) < 47000) {
                    throw new IllegalStateException("PCM is " + x.count(5));
                }
                x.clear();
            }
        }
    }

    private static int wordAt(int header, int at) {
        return at % 8 == 0 ? header : 0;
    }

    private static void ask() {
        SoundBench x = new SoundBench();
        x.feed(new FrameWriter(2, 14, 2, 0).header(), 0, 0, 0, 0);
        for (int calls = 2; calls < CALLS; calls++) {
            x.decode();
        }
    }
}
