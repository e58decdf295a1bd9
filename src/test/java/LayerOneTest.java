/** Terms II and III, promises 6 and 8 to 10 for Layer I: CHECK, allocations, factors, codes. */
public final class LayerOneTest {
    private static final Due DUE = new Due("LayerOneTest");

    public static void main(String[] args) {
        allAllocations();
        allFactors();
        samplesByCode();
        stereoOrder();
        jointOrder();
        checks();
        badOnes();
        endOfFrame();
        badLeavesNothing();
        questionsWithoutAnswer();
        DUE.close();
    }

    private static SoundBench decoded(byte[]... parts) {
        SoundBench x = Tapes.of(parts);
        x.decode();
        return x;
    }

    private static void outcome(String what, int want, byte[] bytes) {
        SoundBench x = decoded(bytes);
        DUE.is(what + ": FRAMES", x.count(2), 1);
        DUE.is(what + ": OUTCOME", x.frame(0, 0), want);
        DUE.is(what + ": DECODED", x.count(3), want == 0 ? 1 : 0);
        DUE.is(what + ": PCM", x.frame(0, 9), want == 0 ? 384 : 0);
        DUE.is(what + ": place", x.count(1), bytes.length);
    }

    private static void allAllocations() {
        for (int a = 0; a <= 14; a++) {
            FrameWriter writer = new FrameWriter(1, 14, 1, 3).put(0, 4, 5).put(a, 4).put(0, 4, 26);
            SoundBench x = decoded((a == 0 ? writer : writer.put(7, 6).put(0, a + 1, 12)).bytes());
            DUE.is("steps of allocation " + a, x.steps(0, 5), a == 0 ? 0 : (2 << a) - 1);
            DUE.is("steps of the band before", x.steps(0, 4), 0);
            DUE.is("factor with allocation " + a, x.factor(0, 5, 0), a == 0 ? -1 : 7);
        }
    }

    private static void allFactors() {
        long[] tops = {2097152, 1664511, 1321123};
        for (int f = 0; f <= 62; f++) {
            SoundBench x = decoded(Sounds.ofLayerOne(f));
            for (int third = 0; third < 3; third++) {
                DUE.is("factor " + f + " of third " + third, x.factor(0, 0, third), f);
            }
            long size = tops[f % 3];
            for (int halved = 0; halved < f / 3; halved++) {
                size /= 2;
            }
            DUE.is("sample of factor " + f, x.band(0, 0, 6), 2 * size / 3);
        }
        outcome("factor 63", 2, Sounds.ofLayerOne(63));
    }

    private static void samplesByCode() {
        // Three bits, seven steps, factor 1: -6, -4, .. 6 sevenths of 1664511, cut towards 0.
        FrameWriter writer = new FrameWriter(1, 1, 1, 3).put(0, 4, 31).put(2, 4).put(1, 6);
        for (int t = 0; t < 12; t++) {
            writer.put(t % 7, 3);
        }
        SoundBench x = decoded(writer.bytes());
        int[] want = {-1426723, -951149, -475574, 0, 475574, 951149, 1426723};
        for (int t = 0; t < 12; t++) {
            DUE.is("row " + t, x.band(0, 31, t), want[t % 7]);
        }
        // Fifteen bits: the least and the greatest code.
        writer = new FrameWriter(1, 14, 1, 3).put(14, 4).put(0, 4, 31).put(0, 6).put(0, 15).put(32766, 15, 11);
        x = decoded(writer.bytes());
        DUE.is("the least", x.band(0, 0, 0), -2097087);
        DUE.is("the greatest", x.band(0, 0, 1), 2097087);
    }

    private static void stereoOrder() {
        // Band 0: channel 1 alone; band 1: both; band 31: channel 0 alone.
        FrameWriter writer = new FrameWriter(1, 4, 1, 0).put(0, 4).put(1, 4).put(2, 4).put(3, 4).put(0, 4, 58)
                .put(4, 4).put(0, 4);
        writer.put(10, 6).put(20, 6).put(30, 6).put(40, 6);
        for (int t = 0; t < 12; t++) {
            writer.put(t % 3, 2).put(t % 7, 3).put(t, 4).put(2 * t, 5);
        }
        SoundBench x = decoded(writer.bytes());
        int[][] steps = {{0, 0, 0}, {1, 0, 3}, {0, 1, 7}, {1, 1, 15}, {0, 31, 31}, {1, 31, 0}, {0, 2, 0}};
        for (int[] s : steps) {
            DUE.is("steps(" + s[0] + ", " + s[1] + ")", x.steps(s[0], s[1]), s[2]);
        }
        DUE.is("factor of 1, 0", x.factor(1, 0, 1), 10);
        DUE.is("factor of 0, 1", x.factor(0, 1, 1), 20);
        DUE.is("factor of 1, 1", x.factor(1, 1, 1), 30);
        DUE.is("factor of 0, 31", x.factor(0, 31, 1), 40);
        for (int t = 0; t < 12; t++) {
            DUE.is("1, 0 in row " + t, x.band(1, 0, t), (2 * (t % 3) - 2) * (1664511 >> 3) / 3);
            DUE.is("0, 1 in row " + t, x.band(0, 1, t), (2 * (t % 7) - 6) * (1321123 >> 6) / 7);
            DUE.is("1, 1 in row " + t, x.band(1, 1, t), (2 * t - 14) * (2097152 >> 10) / 15);
            DUE.is("0, 31 in row " + t, x.band(0, 31, t), (4 * t - 30) * (1664511 >> 13) / 31);
            DUE.is("without an allocation", x.band(0, 0, t), 0);
        }
        DUE.is("PCM of both", x.count(4) + x.count(5), 768);
    }

    private static void jointOrder() {
        // BOUND 4: band 3 has an allocation of each CHANNEL, band 4 and 31 one of both.
        FrameWriter writer = new FrameWriter(1, 4, 1, 1).put(0, 4, 6).put(1, 4).put(2, 4).put(3, 4).put(0, 4, 26)
                .put(1, 4);
        writer.put(3, 6).put(6, 6).put(9, 6).put(12, 6).put(15, 6).put(18, 6);
        for (int t = 0; t < 12; t++) {
            writer.put(0, 2).put(6, 3).put(t, 4).put(2, 2);
        }
        SoundBench x = decoded(writer.bytes());
        DUE.is("BOUND", x.frame(0, 8), 4);
        DUE.is("steps of 0, 3", x.steps(0, 3), 3);
        DUE.is("steps of 1, 3", x.steps(1, 3), 7);
        for (int channel = 0; channel < 2; channel++) {
            DUE.is("steps of 4", x.steps(channel, 4), 15);
            DUE.is("steps of 31", x.steps(channel, 31), 3);
            DUE.is("factor of 3", x.factor(channel, 3, 2), 3 + 3 * channel);
            DUE.is("factor of 4", x.factor(channel, 4, 2), 9 + 3 * channel);
            DUE.is("factor of 31", x.factor(channel, 31, 2), 15 + 3 * channel);
            for (int t = 0; t < 12; t++) {
                DUE.is("4 in row " + t, x.band(channel, 4, t), (2 * t - 14) * (2097152 >> 3 + channel) / 15);
                DUE.is("31 in row " + t, x.band(channel, 31, t), 2 * (2097152 >> 5 + channel) / 3);
            }
        }
        DUE.is("0, 3", x.band(0, 3, 5), -2 * (2097152 >> 1) / 3);
        DUE.is("1, 3", x.band(1, 3, 5), 6 * (2097152 >> 2) / 7);
    }

    private static FrameWriter checkedWriter(int flaw, int allocation, int factor) {
        return new FrameWriter(1, 2, 1, 3).checked(flaw).put(allocation, 4).put(0, 4, 31).coveredHere()
                .put(factor, 6).put(1, 2, 12);
    }

    private static void checks() {
        outcome("CHECK right", 0, checkedWriter(0, 1, 5).bytes());
        for (int bit = 0; bit < 16; bit++) {
            outcome("CHECK wrong in bit " + bit, 1, checkedWriter(1 << bit, 1, 5).bytes());
        }
        for (int bit = 32; bit < 48 + 128 + 30; bit++) {
            byte[] bytes = checkedWriter(0, 1, 5).bytes();
            bytes[bit / 8] ^= (byte) (128 >> bit % 8);
            boolean isWrong = decoded(bytes).frame(0, 0) == 1;
            DUE.holds("bit " + bit + " changed: CHECK wrong is " + isWrong, isWrong == (bit < 48 + 128));
        }
        // The HEADER's last bits are of the CHECK too: those that change nothing else.
        for (int bit : new int[] {23, 28, 29}) {
            byte[] bytes = checkedWriter(0, 1, 5).bytes();
            bytes[bit / 8] ^= (byte) (128 >> bit % 8);
            outcome("bit " + bit + " of the HEADER changed", 1, bytes);
        }
        outcome("allocation 15, CHECK right", 2, checkedWriter(0, 15, 5).bytes());
        outcome("allocation 15, CHECK wrong", 1, checkedWriter(4, 15, 5).bytes());
        outcome("factor 63, CHECK right", 2, checkedWriter(0, 1, 63).bytes());
        outcome("factor 63, CHECK wrong", 1, checkedWriter(4, 1, 63).bytes());
        // Two CHANNELS of 32 kbit/s: the allocations are longer than the FRAME.
        outcome("CHECK beyond the end", 2, new FrameWriter(1, 1, 1, 0).checked(1).put(0, 4, 64).coveredHere().bytes());
        outcome("allocations beyond the end", 2, new FrameWriter(1, 1, 1, 0).bytes());
        // With a BOUND they fit: 4 * (4 + 32) bits.
        outcome("CHECK with a BOUND", 0, new FrameWriter(1, 1, 1, 1).checked(0).put(0, 4, 36).coveredHere().bytes());
        outcome("CHECK of too much", 1,
                new FrameWriter(1, 1, 1, 1).checked(0).put(0, 4, 37).coveredHere().bytes());
        // Two CHANNELS of 64 kbit/s, CHECK and all: 32 + 16 + 256 of 512 bits.
        outcome("CHECK of two", 0, new FrameWriter(1, 2, 1, 2).checked(0).put(0, 4, 64).coveredHere().bytes());
    }

    private static void badOnes() {
        outcome("allocation 15", 2, new FrameWriter(1, 14, 1, 3).put(0, 4, 31).put(15, 4).bytes());
        outcome("allocation 15 of both", 2, new FrameWriter(1, 14, 1, 1).put(0, 4, 8).put(15, 4).bytes());
        for (int row = 0; row < 12; row++) {
            FrameWriter writer = new FrameWriter(1, 1, 1, 3).put(1, 4).put(0, 4, 31).put(0, 6);
            outcome("code L in row " + row, 2, writer.put(2, 2, row).put(3, 2).put(0, 2, 11 - row).bytes());
        }
        for (int a = 1; a <= 14; a++) {
            FrameWriter writer = new FrameWriter(1, 14, 1, 3).put(a, 4).put(0, 4, 31).put(0, 6);
            outcome("code L of allocation " + a, 2, writer.put(-1, a + 1).bytes());
            writer = new FrameWriter(1, 14, 1, 3).put(a, 4).put(0, 4, 31).put(0, 6);
            outcome("the code below L of " + a, 0, writer.put(-2, a + 1, 12).bytes());
        }
    }

    private static void endOfFrame() {
        // 256 bits: 32, 128 of allocations, 6 of a factor: 90 are left, 84 for codes of 7 bits, 96 of 8.
        outcome("codes up to 6 bits ahead of the end", 0,
                new FrameWriter(1, 1, 1, 3).put(6, 4).put(0, 4, 31).bytes());
        outcome("codes beyond the end", 2, new FrameWriter(1, 1, 1, 3).put(7, 4).put(0, 4, 31).bytes());
        // Two of 3 and 4 bits: 12 for factors leave 84, which is what they take.
        outcome("codes up to the last bit", 0,
                new FrameWriter(1, 1, 1, 3).put(2, 4).put(3, 4).put(0, 4, 30).bytes());
        // Behind the last code anything may stand.
        FrameWriter writer = new FrameWriter(1, 1, 1, 3).put(1, 4).put(0, 4, 31).put(0, 6).put(1, 2, 12);
        outcome("ones behind the last code", 0, writer.put(1, 1, writer.room()).bytes());
        // Factors beyond the end: 16 of one CHANNEL take 96 bits.
        outcome("factors beyond the end", 2, new FrameWriter(1, 1, 1, 3).put(1, 4, 32).bytes());
        // What stands on the TAPE behind the FRAME is not read for it.
        byte[] cut = new FrameWriter(1, 1, 1, 3).put(7, 4).put(0, 4, 31).bytes();
        DUE.is("the TAPE goes on", decoded(cut, Tapes.zeros(40)).frame(0, 0), 2);
    }

    private static void badLeavesNothing() {
        byte[] sound = Sounds.ofLayerOne(4);
        byte[] bad = new FrameWriter(1, 1, 1, 3).put(0, 4).put(2, 4).put(0, 4, 30).put(0, 6).put(5, 3, 11).put(7, 3)
                .bytes();
        byte[] wrong = new FrameWriter(1, 2, 1, 1).checked(1).put(3, 4, 36).coveredHere().bytes();
        SoundBench x = decoded(sound, bad, wrong);
        SoundBench y = decoded(sound);
        DUE.is("OUTCOMES", x.frame(0, 0) * 100 + x.frame(1, 0) * 10 + x.frame(2, 0), 21);
        DUE.is("the latest DECODED one: steps", x.steps(0, 0), 3);
        DUE.is("no steps of the BAD one", x.steps(0, 1), 0);
        DUE.is("its factor", x.factor(0, 0, 0), 4);
        DUE.is("its sample", x.band(0, 0, 11), y.band(0, 0, 11));
        DUE.is("no sample of the BAD one", x.band(0, 1, 0), 0);
        DUE.is("no second CHANNEL", x.steps(1, 0), -1);
        DUE.is("PCM", x.count(4), 384);
        for (int i = 0; i < 100; i++) {
            DUE.is("memory " + 10 * i, x.memory(0, 10 * i), y.memory(0, 10 * i));
        }
        // A DECODED FRAME leaves nothing of the one before.
        x = decoded(sound, new FrameWriter(1, 1, 1, 3).put(0, 4).put(1, 4).put(0, 4, 30).put(9, 6).bytes());
        DUE.is("steps of the second", x.steps(0, 1), 3);
        DUE.is("none of the first", x.steps(0, 0), 0);
        DUE.is("no factor of the first", x.factor(0, 0, 0), -1);
        DUE.is("no sample of the first", x.band(0, 0, 0), 0);
    }

    private static void questionsWithoutAnswer() {
        SoundBench x = decoded(Sounds.ofLayerOne(0));
        int low = Integer.MIN_VALUE;
        int high = Integer.MAX_VALUE;
        for (int wrong : new int[] {-1, low, high}) {
            DUE.is("band of channel " + wrong, x.band(wrong, 0, 0), 0);
            DUE.is("band " + wrong, x.band(0, wrong, 0), 0);
            DUE.is("row " + wrong, x.band(0, 0, wrong), 0);
            DUE.is("steps of channel " + wrong, x.steps(wrong, 0), -1);
            DUE.is("steps of band " + wrong, x.steps(0, wrong), -1);
            DUE.is("factor of channel " + wrong, x.factor(wrong, 0, 0), -1);
            DUE.is("factor of band " + wrong, x.factor(0, wrong, 0), -1);
            DUE.is("factor of third " + wrong, x.factor(0, 0, wrong), -1);
        }
        DUE.is("row 11", x.band(0, 0, 11), 1398101);
        DUE.is("row 12", x.band(0, 0, 12), 0);
        DUE.is("channel 1", x.band(1, 0, 0), 0);
        DUE.is("steps of band 31", x.steps(0, 31), 0);
        DUE.is("steps of band 32", x.steps(0, 32), -1);
        DUE.is("steps of channel 1", x.steps(1, 0), -1);
        DUE.is("factor of third 2", x.factor(0, 0, 2), 0);
        DUE.is("factor of third 3", x.factor(0, 0, 3), -1);
        DUE.is("factor of channel 1", x.factor(1, 0, 0), -1);
        DUE.is("factor without an allocation", x.factor(0, 1, 0), -1);
        DUE.is("channel 2 of two", decoded(new FrameWriter(1, 2, 1, 0).bytes()).steps(2, 0), -1);
        DUE.is("channel 1 of two", decoded(new FrameWriter(1, 2, 1, 0).bytes()).steps(1, 0), 0);
    }
}
