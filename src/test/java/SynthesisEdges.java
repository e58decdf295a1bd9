/** Boundaries of the synthesis: Term V. */
final class SynthesisEdges {
    private static final int LOUD = 1398101;
    private static final byte[] SILENT = new FrameWriter(1, 1, 1, 3).bytes();

    private final Edges edges;

    SynthesisEdges(Edges edges) {
        this.edges = edges;
    }

    void ask() {
        rows();
        numbersStay();
        numbersGoUp();
        numbersComeIn();
        cosines();
        windows();
        pcmIsRounded();
        pcmHasEnds();
    }

    /** Layer I: a SAMPLE of two thirds of F in one band and row, 0 elsewhere. */
    private static byte[] inLayerOne(int band, int row, int factor) {
        return new FrameWriter(1, 1, 1, 3).put(0, 4, band).put(1, 4).put(0, 4, 31 - band).put(factor, 6).put(1, 2, row).put(2, 2)
                .put(1, 2, 11 - row).bytes();
    }

    /** Layer II, 65535 steps in band 0: this code in one row, and the middle one, a SAMPLE of 0, elsewhere. */
    private static byte[] inLayerTwo(int row, int factor, int code) {
        return LayerTwoTables.allotted(new FrameWriter(2, 10, 0, 3), 30, LayerTwoTables.FIRST, 0, 15).put(2, 2).put(factor, 6)
                .put(32767, 16, row).put(code, 16).put(32767, 16, 35 - row).bytes();
    }

    private static int cosine(int n) {
        return (int) Math.round(16384 * Math.cos(Math.PI * (n % 128) / 64));
    }

    /** What comes at v(i) of one SAMPLE alone. */
    private static long comesOf(int band, int i, long sample) {
        return Math.floorDiv(cosine((16 + i) * (2 * band + 1)) * sample + 8192, 16384L);
    }

    private static long roundedPcm(long sum) {
        return Math.floorDiv(sum + 1048576, 2097152L);
    }

    private static int ended(long pcm) {
        return (int) Math.max(-32768, Math.min(32767, pcm));
    }

    private void rows() {
        edges.of("Term V", "SYNTHESIS, for each CHANNEL, each row of 32 SAMPLES x0 .. x31 (12 rows a FRAME of Layer I, 36 of II),");
        SoundBench x = Edges.decoded(SILENT, new FrameWriter(2, 1, 1, 3).bytes(), new FrameWriter(1, 2, 1, 0).bytes());
        edges.is("PCM of Layer I", x.frame(0, 9), 12 * 32);
        edges.is("PCM of Layer II", x.frame(1, 9), 36 * 32);
        edges.is("PCM of CHANNEL 0", x.count(4), 60 * 32);
        edges.is("PCM of CHANNEL 1", x.count(5), 12 * 32);
        // A row sounds in its own 32 PCM samples first, and in none ahead of them.
        long first = ended(roundedPcm(Model.windowAt(31) * comesOf(0, 31, LOUD)));
        edges.holds("it can be heard", first != 0);
        for (int row : new int[] {0, 1, 10, 11}) {
            x = Edges.decoded(inLayerOne(0, row, 0));
            edges.is("row " + row + " of Layer I", x.pcm(0, 32 * row + 31), first);
            edges.is("ahead of row " + row, x.sum(0, 0, 32 * row), 0);
        }
        first = ended(roundedPcm(Model.windowAt(31) * comesOf(0, 31, 2097119)));
        for (int row : new int[] {0, 1, 34, 35}) {
            x = Edges.decoded(inLayerTwo(row, 0, 65534));
            edges.is("row " + row + " of Layer II", x.pcm(0, 32 * row + 31), first);
            edges.is("ahead of row " + row, x.sum(0, 0, 32 * row), 0);
        }
        // Each CHANNEL has its own SAMPLES: all codes 2 in the one, 0 in the other.
        FrameWriter apart = new FrameWriter(1, 2, 1, 0).put(1, 4, 2).put(0, 4, 62).put(0, 6, 2);
        for (int t = 0; t < 12; t++) {
            apart.put(2, 2).put(0, 2);
        }
        x = Edges.decoded(apart.bytes());
        edges.is("v(48) of CHANNEL 0", x.memory(0, 48), -LOUD);
        edges.is("v(48) of CHANNEL 1", x.memory(1, 48), LOUD);
        edges.is("PCM 383 of CHANNEL 0", x.pcm(0, 383), 32767);
        edges.is("PCM 383 of CHANNEL 1", x.pcm(1, 383), -32768);
        // The last row of Layer II too: all codes 26 (2, 2, 2) in the one, 0 in the other.
        apart = new FrameWriter(2, 6, 1, 0).put(1, 4, 2).put(0, 4, 2).put(0, 3, 12).put(2, 2, 2).put(0, 6, 2);
        for (int go = 0; go < 12; go++) {
            apart.put(26, 5).put(0, 5);
        }
        x = Edges.decoded(apart.bytes());
        for (int row : new int[] {20, 34, 35}) {
            int at = 64 * (35 - row) + 48;
            edges.is("row " + row + " of Layer II: v(" + at + ") of CHANNEL 0", x.memory(0, at), -LOUD);
            edges.is("row " + row + " of Layer II: v(" + at + ") of CHANNEL 1", x.memory(1, at), LOUD);
        }
        edges.is("PCM 1151 of CHANNEL 0", x.pcm(0, 1151), 32767);
        edges.is("PCM 1151 of CHANNEL 1", x.pcm(1, 1151), -32768);
        // x0 and x31 both count.
        for (int band : new int[] {0, 31}) {
            x = Edges.decoded(inLayerOne(band, 11, 0));
            edges.is("v(1) of x" + band, x.memory(0, 1), comesOf(band, 1, LOUD));
            edges.is("v(63) of x" + band, x.memory(0, 63), comesOf(band, 63, LOUD));
        }
    }

    private void numbersStay() {
        edges.of("Term V", "with 1024 numbers v that are 0 at first and stay from FRAME to FRAME:");
        SoundBench x = new SoundBench();
        for (int channel = 0; channel < 2; channel++) {
            for (int i : new int[] {0, 63, 64, 767, 768, 959, 960, 1023}) {
                edges.is("at first: memory(" + channel + ", " + i + ")", x.memory(channel, i), 0);
            }
        }
        byte[] both = new FrameWriter(1, 2, 1, 0).put(1, 4, 2).put(0, 4, 62).put(0, 6, 2).put(2, 2, 24).bytes();
        Tapes.append(x, both);
        x.decode();
        for (int channel = 0; channel < 2; channel++) {
            edges.is("the last row of " + channel, x.memory(channel, 63), comesOf(0, 63, LOUD));
            edges.is("the first row of " + channel, x.memory(channel, 767), comesOf(0, 63, LOUD));
            edges.is("no row yet of " + channel, x.memory(channel, 768), 0);
        }
        // BAD ones and wrong ones leave it as it is; so does one CHANNEL with the other's.
        Tapes.append(x, new FrameWriter(1, 1, 1, 3).put(15, 4).bytes());
        Tapes.append(x, new FrameWriter(1, 1, 1, 3).checked(1).put(0, 4, 32).coveredHere().bytes());
        x.decode();
        edges.is("v stays", x.memory(0, 767), comesOf(0, 63, LOUD));
        Tapes.append(x, SILENT);
        x.decode();
        edges.is("v(63) of 0", x.memory(0, 63), 0);
        edges.is("v(831) of 0, from the FRAME before", x.memory(0, 831), comesOf(0, 63, LOUD));
        edges.is("v(63) of 1", x.memory(1, 63), comesOf(0, 63, LOUD));
        edges.is("v(831) of 1", x.memory(1, 831), 0);
        // The second FRAME sounds on from the first, over the seam: 16 rows after its own a SAMPLE is heard no more.
        x = Edges.decoded(inLayerOne(0, 11, 0), SILENT, SILENT);
        for (int m = 0; m < 16; m++) {
            long want = Model.windowAt(32 * m + 31) * comesOf(0, m % 2 == 0 ? 31 : 63, LOUD);
            edges.is("row " + m + " behind it", x.pcm(0, 32 * (11 + m) + 31), ended(roundedPcm(want)));
        }
        edges.is("silence at last", x.sum(0, 27 * 32, 1152), 0);
    }

    private void numbersGoUp() {
        edges.of("Term V", "v goes up by 64 places (what is at 960 and on goes);");
        for (int row = 0; row < 12; row++) {
            SoundBench x = Edges.decoded(inLayerOne(0, row, 0));
            int at = 64 * (11 - row);
            edges.is("row " + row + ": v(" + at + ")", x.memory(0, at), comesOf(0, 0, LOUD));
            edges.is("row " + row + ": v(" + (at + 63) + ")", x.memory(0, at + 63), comesOf(0, 63, LOUD));
            edges.is("row " + row + ": below", x.memory(0, at - 1), 0);
            edges.is("row " + row + ": above", x.memory(0, at + 64), 0);
            // Twelve rows more: row 8 is at 960 to 1023 then, and row 7 has gone.
            Tapes.append(x, SILENT);
            x.decode();
            edges.is("row " + row + " later: v(" + (at + 768) + ")", x.memory(0, at + 768), row < 8 ? 0 : comesOf(0, 0, LOUD));
            edges.is("row " + row + " later: its last", x.memory(0, at + 831), row < 8 ? 0 : comesOf(0, 63, LOUD));
            for (int i = 0; i < 16; i++) {
                boolean there = row >= 8 && i == 12 + 11 - row;
                edges.is("row " + row + " later: v(" + (64 * i + 48) + ")", x.memory(0, 64 * i + 48), there ? -LOUD : 0);
            }
        }
        // In 36 rows of Layer II: row 20 is the last that is still there.
        for (int row = 18; row <= 22; row++) {
            SoundBench x = Edges.decoded(inLayerTwo(row, 0, 65534));
            for (int i = 11; i < 16; i++) {
                edges.is("row " + row + " of 36: v(" + (64 * i + 48) + ")", x.memory(0, 64 * i + 48), row == 35 - i ? -2097119 : 0);
            }
        }
    }

    private void numbersComeIn() {
        edges.of("Term V", "at i, 0 to 63, comes the sum over k of C((16 + i) * (2 k + 1)) * xk, and 8192, divided by 16384 (downwards).");
        // SAMPLES of 1 and -1 (factor 60, of three steps): v is C / 16384, rounded; by i: C, v of 1, v of -1.
        int[][] known = {
            {0, 11585, 1, -1}, {5, 8423, 1, -1}, {6, 7723, 0, 0}, {16, 0, 0, 0}, {26, -7723, 0, 0}, {27, -8423, -1, 1},
            {48, -16384, -1, 1}, {63, -12140, -1, 1},
        };
        SoundBench up = Edges.decoded(inLayerOne(0, 11, 60));
        SoundBench down = Edges.decoded(new FrameWriter(1, 1, 1, 3).put(1, 4).put(0, 4, 31).put(60, 6).put(1, 2, 11).put(0, 2).bytes());
        edges.is("a SAMPLE of 1", up.band(0, 0, 11), 1);
        edges.is("a SAMPLE of -1", down.band(0, 0, 11), -1);
        for (int[] k : known) {
            edges.is("v(" + k[0] + ") of 1", up.memory(0, k[0]), k[2]);
            edges.is("v(" + k[0] + ") of -1", down.memory(0, k[0]), k[3]);
        }
        edges.is("v(64) of 1", up.memory(0, 64), 0);
        // C(17), 11003, times 8192 is just a half of 16384 beyond a whole; times 4045 it is 1 less than a half.
        SoundBench half = Edges.decoded(inLayerTwo(35, 20, codeOf(8192)));
        edges.is("v(1) of a half", half.memory(0, 1), 5502);
        half = Edges.decoded(inLayerTwo(35, 20, codeOf(-8192)));
        edges.is("v(1) of a half below 0", half.memory(0, 1), -5501);
        half = Edges.decoded(inLayerTwo(35, 20, codeOf(4045)));
        edges.is("v(1) of 1 less than a half", half.memory(0, 1), 2716);
        // All 32 bands at once: 44739232 times 16384 is far beyond the ints.
        for (int code = 0; code <= 2; code++) {
            SoundBench x = Edges.decoded(new FrameWriter(1, 5, 1, 3).put(1, 4, 32).put(0, 6, 32).put(code, 2, 384).bytes());
            edges.is("all codes " + code + ": v(48)", x.memory(0, 48), (1 - code) * 32 * LOUD);
            edges.is("all codes " + code + ": v(16)", x.memory(0, 16), 0);
        }
    }

    private void cosines() {
        edges.of("Term V", "C(n), with C(n + 128) = C(n), C(128 - n) = C(n), C(64 - n) = -C(n): of 0 to 32:");
        // n around the places where it turns; no i and k have a multiple of 128.
        int[][] known = {
            {1, 16364}, {31, 804}, {32, 0}, {33, -804}, {63, -16364}, {64, -16384}, {65, -16364}, {95, -804}, {96, 0},
            {97, 804}, {127, 16364},
        };
        int[] asked = new int[known.length];
        for (int band = 0; band < 32; band++) {
            SoundBench x = Edges.decoded(inLayerOne(band, 11, 0));
            for (int i = 0; i < 64; i++) {
                int n = (16 + i) * (2 * band + 1);
                for (int k = 0; k < known.length; k++) {
                    if (n % 128 == known[k][0]) {
                        asked[k]++;
                        edges.is("C(" + n + ")", x.memory(0, i), Math.floorDiv((long) known[k][1] * LOUD + 8192, 16384L));
                    }
                }
            }
        }
        for (int k = 0; k < known.length; k++) {
            edges.holds("C(" + known[k][0] + ") has been asked for", asked[k] > 0);
        }
    }

    /** One SAMPLE in row 0: PCM n is W(n) times one number alone. */
    private void windows() {
        edges.of("Term V", "PCM j, 0 to 31: the sum over i, 0 to 7, of W(64 i + j) * v(128 i + j) and W(64 i + 32 + j) * "
                + "v(128 i + 96 + j); and 1048576, divided by 2097152 (downwards),");
        everyWindow(0, 0, 512);
        edges.of("Term V", "W(n), 0 to 511; of 0 to 256 as follows; W(512 - n) of others is -W(n), but W(n) itself if n is a multiple of 64:");
        int[][] known = {
            {0, 0}, {1, -1}, {63, -208}, {64, 213}, {65, 218}, {127, -2063}, {128, 2037}, {129, 2000}, {191, -7134}, {192, 6574},
            {255, -74992}, {256, 75038}, {257, 74992}, {319, 5959 * -1}, {320, 6574}, {321, 7134}, {383, -2000}, {384, 2037},
            {385, 2063}, {447, -218}, {448, 213}, {449, 208}, {511, 1},
        };
        for (int[] k : known) {
            edges.is("W(" + k[0] + ")", Model.windowAt(k[0]), k[1]);
            everyWindow(3, k[0], k[0] + 1);
            everyWindow(0, k[0], k[0] + 1);
        }
        everyWindow(6, 0, 512);
    }

    private void everyWindow(int factor, int from, int to) {
        SoundBench x = new SoundBench();
        for (int n = from; n < to; n++) {
            // No object is asked for more than its calls.
            if (n == from || n % 256 == 0) {
                x = Edges.decoded(inLayerOne(0, 0, factor), SILENT);
            }
            long v = comesOf(0, n % 64, 2 * (2097152 >> factor / 3) / 3);
            edges.is("factor " + factor + ", PCM " + n, x.pcm(0, n), ended(roundedPcm(Model.windowAt(n) * v)));
        }
    }

    /** The code of 65535 steps and factor 20 that has this SAMPLE; each up to 20641 has one, on both sides of 0. */
    private static int codeOf(int sample) {
        for (int code = 0; code < 65535; code++) {
            if ((2L * code - 65534) * (1321123 >> 6) / 65535 == sample) {
                return code;
            }
        }
        throw new IllegalStateException("no code has " + sample);
    }

    /** The code whose SAMPLE gives this v(i); each up to 14000 has one where C is not 0. */
    private static int codeFor(int i, int number) {
        for (int sample = -20641; sample <= 20641; sample++) {
            if (comesOf(0, i, sample) == number) {
                return codeOf(sample);
            }
        }
        throw new IllegalStateException("no SAMPLE gives " + number);
    }

    private void pcmIsRounded() {
        edges.of("Term V", "and 1048576, divided by 2097152 (downwards),");
        // PCM 64 is W(64), 213, times v(0): 4922 is the last below a half, 4923 the first above it.
        int[][] known = {{0, 0}, {1, 0}, {4922, 0}, {4923, 1}, {-1, 0}, {-4922, 0}, {-4923, -1}, {9845, 1}, {-9845, -1}};
        for (int[] k : known) {
            SoundBench x = Edges.decoded(inLayerTwo(0, 20, codeFor(0, k[0])));
            edges.is("213 times " + k[0], x.pcm(0, 64), k[1]);
        }
        // Below 0 it is downwards too: 75038 times 42 is 1.503 of 2097152.
        int[][] more = {{13, 0}, {14, 1}, {41, 1}, {42, 2}, {-13, 0}, {-14, -1}, {-41, -1}, {-42, -2}};
        for (int[] k : more) {
            SoundBench x = Edges.decoded(inLayerTwo(0, 20, codeFor(0, k[0])));
            edges.is("75038 times " + k[0], x.pcm(0, 256), k[1]);
        }
        // W(137), 1280: times 4096 it is just two and a half.
        int[][] halves = {{4095, 2}, {4096, 3}, {-4096, -2}, {-4097, -3}};
        for (int[] k : halves) {
            SoundBench x = Edges.decoded(inLayerTwo(0, 20, codeFor(137 % 64, k[0])));
            edges.is("1280 times " + k[0], x.pcm(0, 137), k[1]);
        }
        // W(11), -3, times -349525 is 1 less than a half; W(45), -85, times 851197 is 1 less than 34 and a half below 0.
        edges.is("-3 times -349525", Edges.decoded(inLayerTwo(0, 1, 4449)).pcm(0, 11), 0);
        edges.is("-85 times 851197", Edges.decoded(inLayerTwo(0, 0, 19322)).pcm(0, 45), -35);
    }

    private void pcmHasEnds() {
        edges.of("Term V", "but -32768 and 32767 at the ends.");
        int[] targets = {32766, 32767, 32768, 32769, 40000, -32767, -32768, -32769, -32770, -40000};
        for (int target : targets) {
            boolean found = false;
            // PCM n is W(n) times v(n % 64): some code and n give just the number sought.
            for (int code = 0; code < 65535 && !found; code++) {
                for (int n = 256; n > 244 && !found; n--) {
                    int factor = Math.abs(target) < 35000 ? 2 : 0;
                    long sample = (2L * code - 65534) * (factor == 2 ? 1321123 : 2097152) / 65535;
                    if (roundedPcm(Model.windowAt(n) * comesOf(0, n % 64, sample)) == target) {
                        found = true;
                        SoundBench x = Edges.decoded(inLayerTwo(0, factor, code));
                        edges.is("of " + target, x.pcm(0, n), ended(target));
                    }
                }
            }
            edges.holds("a code gives " + target, found);
        }
    }
}
