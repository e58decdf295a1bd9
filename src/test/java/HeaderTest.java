/** Promise 7 and Terms I and II: which HEADERS are GOOD, and what frame() tells of their FRAMES. */
public final class HeaderTest {
    private static final Due DUE = new Due("HeaderTest");
    private static final int[] LAYER_TWO = {0, 32, 48, 56, 64, 80, 96, 112, 128, 160, 192, 224, 256, 320, 384, 0};
    private static final int[] HERTZ = {44100, 48000, 32000, 0};

    public static void main(String[] args) {
        everyHeader();
        knownSizes();
        bandsAndBounds();
        wrongQuestions();
        bitsOfNoMatter();
        DUE.close();
    }

    private static SoundBench decoded(int header, int bytes) {
        byte[] tape = new byte[bytes];
        for (int i = 0; i < 4; i++) {
            tape[i] = (byte) (header >> 24 - 8 * i);
        }
        SoundBench x = Tapes.of(tape);
        x.decode();
        return x;
    }

    private static boolean good(int layer, int rate, int sampling, int mode, int emphasis) {
        if (layer < 1 || layer > 2 || rate < 1 || rate > 14 || sampling == 3 || emphasis == 2) {
            return false;
        }
        if (layer == 1) {
            return true;
        }
        boolean forOneAlone = rate == 1 || rate == 2 || rate == 3 || rate == 5;
        return mode == 3 ? rate < 11 : !forOneAlone;
    }

    private static void everyHeader() {
        for (int low = 0; low < 1 << 16; low++) {
            if ((low & 0x010C) != 0) {
                continue;
            }
            for (int high : new int[] {0xFFFF, 0xFFFD, 0xFFFB, 0xFFF9, 0xFFF7, 0xFFF5, 0xFFEF, 0x7FFF}) {
                askHeader(high << 16 | low);
            }
        }
    }

    private static void askHeader(int header) {
        int layer = 4 - (header >> 17 & 3);
        int rate = header >> 12 & 15;
        int sampling = header >> 10 & 3;
        int padding = header >> 9 & 1;
        int mode = header >> 6 & 3;
        boolean marked = header >>> 19 == 0x1FFF;
        String name = Integer.toHexString(header);
        SoundBench x = new SoundBench();
        x.feed(header, 0, 0, 0, 0);
        x.decode();
        if (!marked || !good(layer, rate, sampling, mode, header & 3)) {
            // Its later bytes may begin another HEADER.
            DUE.holds(name + " is not GOOD: place " + x.count(1), x.count(1) > 0);
            return;
        }
        DUE.is(name + " is GOOD: place", x.count(1), 0);
        int kbit = layer == 1 ? 32 * rate : LAYER_TWO[rate];
        int bytes = layer == 1 ? (12000 * kbit / HERTZ[sampling] + padding) * 4
                : 144000 * kbit / HERTZ[sampling] + padding;
        // The other bits change nothing of the size: one in eight of the FRAMES is asked for whole.
        if ((header >> 4 & 3) != padding || (header & 3) != 0) {
            return;
        }
        DUE.is(name + " less a byte", decoded(header, bytes - 1).count(2), 0);
        x = decoded(header, bytes);
        int[] want = {x.frame(0, 0), 0, bytes, layer, kbit, HERTZ[sampling], mode, mode == 3 ? 1 : 2};
        for (int what = 0; what < want.length; what++) {
            DUE.is(name + ": frame(0, " + what + ")", x.frame(0, what), want[what]);
        }
        boolean fits = layer == 2 || x.frame(0, 7) * 128 + 32 <= bytes * 8 || mode == 1;
        DUE.is(name + ": OUTCOME", x.frame(0, 0), fits ? 0 : 2);
        DUE.is(name + ": PCM", x.frame(0, 9), !fits ? 0 : layer == 1 ? 384 : 1152);
    }

    /** Layer, rate, sampling, padding, bytes: as tables of the standard have them. */
    private static void knownSizes() {
        int[][] known = {
            {1, 1, 1, 0, 32}, {1, 1, 0, 0, 32}, {1, 1, 0, 1, 36}, {1, 1, 2, 0, 48}, {1, 12, 0, 0, 416}, {1, 14, 2, 1, 676},
            {2, 1, 1, 0, 96}, {2, 1, 0, 0, 104}, {2, 1, 0, 1, 105}, {2, 10, 0, 0, 626}, {2, 10, 0, 1, 627}, {2, 4, 2, 0, 288},
        };
        for (int[] k : known) {
            FrameWriter writer = new FrameWriter(k[0], k[1], k[2], 3);
            SoundBench x = decoded((k[3] == 1 ? writer.padded() : writer).header(), k[4]);
            DUE.is("bytes of " + java.util.Arrays.toString(k), x.frame(0, 2), k[4]);
        }
        SoundBench x = decoded(new FrameWriter(2, 14, 2, 0).padded().header(), 1729);
        DUE.is("the longest FRAME", x.frame(0, 2), 1729);
    }

    /** BOUND of MODE 0 is how many bands are told. */
    private static void bandsAndBounds() {
        // Sampling as in the HEADER, rate of Layer II with two CHANNELS, bands.
        int[][] told = {
            {0, 4, 8}, {0, 6, 8}, {0, 7, 27}, {0, 8, 27}, {0, 9, 27}, {0, 10, 30}, {0, 11, 30}, {0, 14, 30},
            {1, 4, 8}, {1, 6, 8}, {1, 7, 27}, {1, 8, 27}, {1, 9, 27}, {1, 10, 27}, {1, 11, 27}, {1, 14, 27},
            {2, 4, 12}, {2, 6, 12}, {2, 7, 27}, {2, 8, 27}, {2, 9, 27}, {2, 10, 30}, {2, 11, 30}, {2, 14, 30},
        };
        for (int[] row : told) {
            for (int mode : new int[] {0, 2}) {
                FrameWriter writer = new FrameWriter(2, row[1], row[0], mode).extension(1);
                SoundBench x = Tapes.of(writer.bytes());
                x.decode();
                DUE.is("BOUND with MODE " + mode + " of rate " + row[1], x.frame(0, 8), row[2]);
            }
            for (int extension = 0; extension < 4; extension++) {
                SoundBench x = Tapes.of(new FrameWriter(2, row[1], row[0], 1).extension(extension).bytes());
                x.decode();
                DUE.is("BOUND with EXTENSION " + extension, x.frame(0, 8), Math.min(row[2], 4 * extension + 4));
            }
        }
        // One CHANNEL: sampling, rate, bands.
        int[][] single = {
            {0, 1, 8}, {0, 2, 8}, {0, 3, 27}, {0, 5, 27}, {0, 6, 30}, {0, 10, 30}, {1, 1, 8}, {1, 2, 8}, {1, 3, 27},
            {1, 6, 27}, {1, 10, 27}, {2, 1, 12}, {2, 2, 12}, {2, 3, 27}, {2, 5, 27}, {2, 6, 30}, {2, 10, 30},
        };
        for (int[] row : single) {
            SoundBench x = Tapes.of(new FrameWriter(2, row[1], row[0], 3).bytes());
            x.decode();
            DUE.is("BOUND of one CHANNEL, rate " + row[1] + ", " + row[0], x.frame(0, 8), row[2]);
        }
        for (int extension = 0; extension < 4; extension++) {
            SoundBench x = Tapes.of(new FrameWriter(1, 4, 1, 1).extension(extension).bytes());
            x.decode();
            DUE.is("BOUND of Layer I, EXTENSION " + extension, x.frame(0, 8), 4 * extension + 4);
            x = Tapes.of(new FrameWriter(1, 4, 1, 0).extension(extension).bytes());
            x.decode();
            DUE.is("BOUND of Layer I, MODE 0", x.frame(0, 8), 32);
        }
    }

    private static void wrongQuestions() {
        SoundBench x = Tapes.of(new FrameWriter(1, 1, 1, 3).bytes());
        DUE.is("ahead of decode", x.frame(0, 1), -1);
        x.decode();
        for (int k : new int[] {-1, 1, Integer.MIN_VALUE, Integer.MAX_VALUE}) {
            DUE.is("frame(" + k + ", 1)", x.frame(k, 1), -1);
        }
        for (int what : new int[] {-1, 10, Integer.MIN_VALUE, Integer.MAX_VALUE}) {
            DUE.is("frame(0, " + what + ")", x.frame(0, what), -1);
        }
    }

    private static void bitsOfNoMatter() {
        for (int bits : new int[] {0x100, 0x8, 0x4, 0x10C}) {
            SoundBench x = decoded(new FrameWriter(1, 1, 1, 3).header() | bits, 32);
            DUE.is("with " + bits, x.frame(0, 0), 0);
        }
    }
}
