/** Term V, promises 11 to 13: v, PCM and its sums, by CHANNEL and from FRAME to FRAME. */
public final class SoundTest {
    private static final Due DUE = new Due("SoundTest");

    public static void main(String[] args) {
        numbersOfOneRow();
        againstTheSums();
        loudestNegative();
        memoryStaysAndMoves();
        channelsApart();
        pcmEdges();
        sums();
        sumGoesRound();
        DUE.close();
    }

    private static SoundBench decoded(byte[]... parts) {
        SoundBench x = Tapes.of(parts);
        x.decode();
        return x;
    }

    /** One band, one row of a sample x, else 0: v is C times x alone. */
    private static void numbersOfOneRow() {
        for (int band = 0; band < 32; band++) {
            // Three steps: code 2 in the last row, 1 (a sample of 0) in the others.
            FrameWriter writer = new FrameWriter(1, 1, 1, 3).put(0, 4, band).put(1, 4).put(0, 4, 31 - band).put(0, 6)
                    .put(1, 2, 11).put(2, 2);
            SoundBench x = decoded(writer.bytes());
            for (int i = 0; i < 64; i++) {
                long c = Math.round(16384 * Math.cos((16 + i) * (2 * band + 1) * Math.PI / 64));
                DUE.is("v(" + i + ") of band " + band, x.memory(0, i), Math.floorDiv(c * 1398101 + 8192, 16384L));
            }
            DUE.is("v(64)", x.memory(0, 64), 0);
        }
    }

    /** PCM of a noisy FRAME of two CHANNELS is that of the Model. */
    private static void againstTheSums() {
        RandomFrames frames = new RandomFrames(new java.util.Random(5), 0);
        for (int n = 0; n < 60; n++) {
            byte[] bytes = frames.next(1800);
            SoundBench x = decoded(bytes);
            Model model = new Model();
            for (int i = 0; i < bytes.length; i += 20) {
                model.feed(Tapes.word(bytes, i), Tapes.word(bytes, i + 4), Tapes.word(bytes, i + 8),
                        Tapes.word(bytes, i + 12), Tapes.word(bytes, i + 16));
            }
            model.end(bytes.length);
            model.decode();
            for (int c = 0; c < 2; c++) {
                DUE.is("PCM of " + c, x.count(4 + c), model.count(4 + c));
                int[] pcm = Sounds.pcmOf(c, 1152, bytes);
                for (int i = 0; i < 1152; i++) {
                    DUE.is("FRAME " + n + ": pcm(" + c + ", " + i + ")", pcm[i], model.pcm(c, i));
                }
                int[] numbers = Sounds.numbersOf(c, bytes);
                for (int i = 0; i < 1024; i++) {
                    DUE.is("FRAME " + n + ": memory(" + c + ", " + i + ")", numbers[i], model.memory(c, i));
                }
            }
        }
    }

    private static void loudestNegative() {
        byte[] low = new FrameWriter(1, 1, 1, 3).put(1, 4).put(0, 4, 31).put(0, 6).put(0, 2, 12).bytes();
        SoundBench x = decoded(low);
        DUE.is("the least PCM", x.pcm(0, 383), -32768);
        DUE.is("v(48)", x.memory(0, 48), 1398101);
        x = decoded(Sounds.ofLayerOne(0));
        DUE.is("the greatest PCM", x.pcm(0, 383), 32767);
        DUE.is("v(48)", x.memory(0, 48), -1398101);
    }

    private static void memoryStaysAndMoves() {
        byte[] silent = new FrameWriter(1, 1, 1, 3).bytes();
        SoundBench x = decoded(Sounds.ofLayerOne(0));
        int newest = x.memory(0, 5);
        Tapes.append(x, silent);
        x.decode();
        // Twelve rows of nothing: what was at 0 to 255 is at 768 and on.
        DUE.is("v(767)", x.memory(0, 767), 0);
        DUE.is("v(773)", x.memory(0, 773), newest);
        DUE.is("v(1023)", x.memory(0, 1023), -1035946);
        DUE.holds("it sounds on from the FRAME before", x.pcm(0, 384) != 0);
        Tapes.append(x, silent);
        x.decode();
        DUE.is("v(1023) of silence", x.memory(0, 1023), 0);
        DUE.holds("its last places sound on", x.sum(0, 768, 864) != 0);
        DUE.is("silence at last", x.sum(0, 896, 1152), 0);
        // A FRAME that is BAD, and one whose CHECK is wrong, move nothing.
        x = decoded(Sounds.ofLayerOne(0));
        Tapes.append(x, new FrameWriter(1, 1, 1, 3).put(15, 4).bytes());
        Tapes.append(x, new FrameWriter(1, 1, 1, 3).checked(1).put(0, 4, 32).coveredHere().bytes());
        DUE.is("two of no use", x.decode(), 2);
        DUE.is("v(5) stays", x.memory(0, 5), newest);
        DUE.is("no PCM of them", x.count(4), 384);
        for (int wrong : new int[] {-1, 1024, Integer.MIN_VALUE, Integer.MAX_VALUE}) {
            DUE.is("memory at " + wrong, x.memory(0, wrong), 0);
        }
        for (int wrong : new int[] {-1, 2, Integer.MIN_VALUE, Integer.MAX_VALUE}) {
            DUE.is("memory of channel " + wrong, x.memory(wrong, 5), 0);
        }
    }

    private static void channelsApart() {
        // Two CHANNELS, the second alone sounds; then one CHANNEL, then two again.
        byte[] right = new FrameWriter(1, 2, 1, 0).put(0, 4).put(1, 4).put(0, 4, 62).put(0, 6).put(2, 2, 12).bytes();
        SoundBench x = decoded(right, Sounds.ofLayerOne(0), right);
        DUE.is("PCM of 0", x.count(4), 3 * 384);
        DUE.is("PCM of 1", x.count(5), 2 * 384);
        SoundBench y = decoded(Sounds.ofLayerOne(0), Sounds.ofLayerOne(0));
        int[] alone = Sounds.pcmOf(0, 768, Sounds.ofLayerOne(0), Sounds.ofLayerOne(0));
        int[] ofZero = Sounds.pcmOf(0, 768, right, Sounds.ofLayerOne(0), right);
        int[] ofOne = Sounds.pcmOf(1, 768, right, Sounds.ofLayerOne(0), right);
        for (int i = 0; i < 768; i++) {
            DUE.is("1 is without a gap at " + i, ofOne[i], alone[i]);
        }
        for (int i = 0; i < 384; i++) {
            DUE.is("0 is silent at " + i, ofZero[i], 0);
            DUE.is("0 sounds in the second FRAME at " + i, ofZero[384 + i], alone[i]);
        }
        DUE.is("sum of 1", x.sum(1, 200, 600), y.sum(0, 200, 600));
        DUE.holds("sum of 1 is its own", x.sum(1, 200, 600) != 0 && x.sum(0, 0, 384) == 0);
        DUE.is("v of 1", x.memory(1, 48), -1398101);
        DUE.is("v of 0", x.memory(0, 48), 0);
        DUE.is("v of 0, of the FRAME before", x.memory(0, 768 + 48), -1398101);
        DUE.is("no sample 768 of 1", x.pcm(1, 768), 0);
    }

    private static void pcmEdges() {
        SoundBench x = decoded(Sounds.ofLayerOne(0));
        DUE.is("pcm 382", x.pcm(0, 382), 32767);
        for (int wrong : new int[] {-1, 384, Integer.MIN_VALUE, Integer.MAX_VALUE}) {
            DUE.is("pcm at " + wrong, x.pcm(0, wrong), 0);
        }
        for (int wrong : new int[] {-1, 1, 2, Integer.MIN_VALUE, Integer.MAX_VALUE}) {
            DUE.is("pcm of channel " + wrong, x.pcm(wrong, 383), 0);
        }
    }

    private static void sums() {
        SoundBench x = decoded(Sounds.ofLayerOne(0), Sounds.ofLayerOne(7));
        int[][] asked = {{0, 384}, {100, 101}, {100, 100}, {100, 99}, {0, 2000}, {383, 2383}, {700, 800}, {767, 768},
            {768, 800}, {5, Integer.MIN_VALUE}};
        int[] pcm = Sounds.pcmOf(0, 768, Sounds.ofLayerOne(0), Sounds.ofLayerOne(7));
        for (int[] a : asked) {
            long want = 0;
            for (int p = a[0]; p < a[1] && p < pcm.length; p++) {
                want += (long) pcm[p] * (p - a[0] + 1);
            }
            DUE.is("sum(0, " + a[0] + ", " + a[1] + ")", x.sum(0, a[0], a[1]), (int) want);
        }
        int[][] refused = {{0, 2001}, {-1, 100}, {300, 2301}, {Integer.MIN_VALUE, 0}, {0, Integer.MAX_VALUE},
            {Integer.MAX_VALUE, Integer.MAX_VALUE}, {Integer.MAX_VALUE - 1, Integer.MAX_VALUE},
            {Integer.MIN_VALUE, Integer.MIN_VALUE + 5}};
        for (int[] a : refused) {
            DUE.is("sum(0, " + a[0] + ", " + a[1] + ")", x.sum(0, a[0], a[1]), 0);
        }
        DUE.holds("sum(0, 300, 2300) is not refused", x.sum(0, 300, 2300) != 0);
        for (int wrong : new int[] {-1, 1, 2, Integer.MIN_VALUE, Integer.MAX_VALUE}) {
            DUE.is("sum of channel " + wrong, x.sum(wrong, 0, 384), 0);
        }
    }

    private static void sumGoesRound() {
        byte[][] loud = new byte[6][];
        for (int k = 0; k < loud.length; k++) {
            loud[k] = Sounds.ofLayerOne(0);
        }
        SoundBench x = decoded(loud);
        // 2000 samples, the last 1700 and more of them 32767: beyond the ints.
        int[] pcm = Sounds.pcmOf(0, 2300, loud);
        long want = 0;
        for (int p = 300; p < 2300; p++) {
            want += (long) pcm[p] * (p - 299);
        }
        DUE.holds("beyond the ints", want > Integer.MAX_VALUE);
        DUE.is("sum(0, 300, 2300)", x.sum(0, 300, 2300), (int) want);
    }
}
