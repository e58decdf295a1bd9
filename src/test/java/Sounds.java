/** FRAMES that sound, for tests of what stays and what goes. */
final class Sounds {
    private Sounds() {
    }

    /** 32 kbit/s, one CHANNEL, three steps in band 0, all codes 2, with this factor. */
    static byte[] ofLayerOne(int factor) {
        return new FrameWriter(1, 1, 1, 3).put(1, 4).put(0, 4, 31).put(factor, 6).put(2, 2, 12).bytes();
    }
}
