/** FRAMES that sound, for tests of what stays and what goes, and all that they sound. */
final class Sounds {
    // What is asked of one object, beside what it is fed, so that it stays within its 512 calls.
    private static final int ASKED_OF_ONE = 256;

    private Sounds() {
    }

    /** 32 kbit/s, one CHANNEL, three steps in band 0, all codes 2, with this factor. */
    static byte[] ofLayerOne(int factor) {
        return new FrameWriter(1, 1, 1, 3).put(1, 4).put(0, 4, 31).put(factor, 6).put(2, 2, 12).bytes();
    }

    /** A CHANNEL's PCM samples 0 to count - 1, of these bytes decoded. */
    static int[] pcmOf(int channel, int count, byte[]... parts) {
        int[] all = new int[count];
        SoundBench x = new SoundBench();
        for (int i = 0; i < count; i++) {
            if (i % ASKED_OF_ONE == 0) {
                x = Edges.decoded(parts);
            }
            all[i] = x.pcm(channel, i);
        }
        return all;
    }

    /** A CHANNEL's 1024 numbers v, of these bytes decoded. */
    static int[] numbersOf(int channel, byte[]... parts) {
        int[] all = new int[1024];
        SoundBench x = new SoundBench();
        for (int i = 0; i < all.length; i++) {
            if (i % ASKED_OF_ONE == 0) {
                x = Edges.decoded(parts);
            }
            all[i] = x.memory(channel, i);
        }
        return all;
    }
}
