/** Boundaries of the HEADER: Term I, and promise 7. */
final class HeaderEdges {
    private static final int LEAST = Integer.MIN_VALUE;
    private static final int GREATEST = Integer.MAX_VALUE;

    private final Edges edges;

    HeaderEdges(Edges edges) {
        this.edges = edges;
    }

    void ask() {
        ones();
        layers();
        protection();
        rates();
        samplings();
        modes();
        emphases();
        ratesByMode();
        bytes();
        channels();
        frameTells();
    }

    private static int header(int layer, int rate, int sampling, int mode) {
        return new FrameWriter(layer, rate, sampling, mode).header();
    }

    private static SoundBench tape(int header, int bytes) {
        byte[] all = new byte[bytes];
        for (int i = 0; i < 4 && i < bytes; i++) {
            all[i] = (byte) (header >> 24 - 8 * i);
        }
        return Tapes.of(all);
    }

    /** On a TAPE of four bytes decode() stops at a GOOD HEADER, else at the last three. */
    private void good(String what, int header, boolean want) {
        SoundBench x = tape(header, 4);
        edges.is(what + ": decode()", x.decode(), 0);
        edges.is(what + ": place", x.count(1), want ? 0 : 1);
    }

    /** What frame(0, what) is with all its bytes. */
    private void tells(String name, int header, int what, int want) {
        SoundBench x = tape(header, 1800);
        x.decode();
        edges.is(name + ": first byte", x.frame(0, 1), 0);
        edges.is(name + ": frame(0, " + what + ")", x.frame(0, what), want);
    }

    private void ones() {
        edges.of("Term I", "It is GOOD if: the ones, ID 1,");
        int all = header(1, 1, 1, 3);
        good("all ones", all, true);
        for (int bit = 0; bit < 12; bit++) {
            good("without one " + bit, all ^ LEAST >>> bit, false);
        }
        good("ID 0", all ^ LEAST >>> 12, false);
        good("nothing", 0, false);
        good("all bits", -1, false);
    }

    private void layers() {
        edges.of("Term I", "HEADER, 32 bits: 12 ones; ID; LAYER (3: I, 2: II; two bits);");
        int rest = header(1, 4, 1, 3) & ~(3 << 17);
        tells("LAYER 3", rest | 3 << 17, 3, 1);
        tells("LAYER 2", rest | 2 << 17, 3, 2);
        edges.of("Term I", "LAYER 3 or 2,");
        for (int layer = 0; layer < 4; layer++) {
            good("LAYER " + layer, rest | layer << 17, layer >= 2);
        }
    }

    private void protection() {
        edges.of("Term I", "PROTECTION (0: a CHECK follows);");
        // 0x103D is the CHECK of this HEADER with no allocation; without a CHECK it is allocations 1, 0, 3, 13.
        SoundBench x = Tapes.of(Tapes.zeros(32));
        setWord(x, 0, 0xFFFE14C0);
        setWord(x, 4, 0x103D0000);
        x.decode();
        edges.is("0: OUTCOME", x.frame(0, 0), 0);
        edges.is("0: steps", x.steps(0, 0), 0);
        SoundBench y = Tapes.of(Tapes.zeros(36));
        setWord(y, 0, 0xFFFF14C0);
        setWord(y, 4, 0x10300000);
        y.decode();
        edges.is("1: OUTCOME", y.frame(0, 0), 0);
        edges.is("1: steps of 0", y.steps(0, 0), 3);
        edges.is("1: steps of 2", y.steps(0, 2), 15);
    }

    private static void setWord(SoundBench x, int at, int word) {
        for (int i = 0; i < 4; i++) {
            x.set(at + i, word >> 24 - 8 * i);
        }
    }

    private void rates() {
        edges.of("Term I", "RATE (4 bits);");
        // The lowest and the highest of its bits.
        tells("RATE 1", header(1, 1, 1, 3), 4, 32);
        tells("RATE 8", header(1, 8, 1, 3), 4, 256);
        edges.of("Term I", "RATE 1 to 14,");
        for (int rate = 0; rate < 16; rate++) {
            int bits = rate << 12;
            good("Layer I, RATE " + rate, header(1, 0, 1, 3) | bits, rate >= 1 && rate <= 14);
            // Layer II has the one end with MODE 3 alone, the other without.
            good("Layer II, RATE " + rate, header(2, 0, 1, rate < 6 ? 3 : 0) | bits, rate >= 1 && rate <= 14);
        }
        edges.of("Term I", "kbit/s of Layer I: 32 times RATE; of II by RATE from 1 on: 32, 48, 56, 64, 80, 96, 112, 128, 160, 192, "
                + "224, 256, 320, 384.");
        int[] second = {32, 48, 56, 64, 80, 96, 112, 128, 160, 192, 224, 256, 320, 384};
        for (int rate = 1; rate <= 14; rate++) {
            tells("Layer I, RATE " + rate, header(1, rate, 1, 3), 4, 32 * rate);
            tells("Layer II, RATE " + rate, header(2, rate, 1, rate < 6 ? 3 : 0), 4, second[rate - 1]);
        }
    }

    private void samplings() {
        edges.of("Term I", "SAMPLING (2: 0 44100, 1 48000, 2 32000);");
        int[] hertz = {44100, 48000, 32000};
        for (int layer = 1; layer <= 2; layer++) {
            for (int sampling = 0; sampling < 3; sampling++) {
                tells("SAMPLING " + sampling, header(layer, 4, sampling, 0), 5, hertz[sampling]);
            }
        }
        edges.of("Term I", "SAMPLING not 3,");
        for (int layer = 1; layer <= 2; layer++) {
            for (int sampling = 0; sampling < 4; sampling++) {
                good("SAMPLING " + sampling, header(layer, 4, sampling, 0), sampling != 3);
            }
        }
    }

    private void modes() {
        edges.of("Term I", "PADDING; one of no matter;");
        int plain = header(1, 1, 1, 3);
        tells("neither", plain, 2, 32);
        tells("PADDING", plain | 0x200, 2, 36);
        tells("the one of no matter", plain | 0x100, 2, 32);
        tells("both", plain | 0x300, 2, 36);
        edges.of("Term I", "MODE (2: 0 stereo, 1 joint, 2 dual, 3 single); EXTENSION (2); two of no matter; EMPHASIS (2).");
        for (int mode = 0; mode < 4; mode++) {
            for (int low = 0; low < 4; low++) {
                int header = header(1, 4, 1, mode) | low << 2;
                tells("MODE " + mode + ", of no matter " + low, header, 6, mode);
                tells("MODE " + mode + ", of no matter " + low, header, 8, mode == 1 ? 4 : 32);
                tells("EXTENSION 3, of no matter " + low, header | 3 << 4, 8, mode == 1 ? 16 : 32);
            }
        }
    }

    private void emphases() {
        edges.of("Term I", "EMPHASIS not 2;");
        for (int layer = 1; layer <= 2; layer++) {
            for (int emphasis = 0; emphasis < 4; emphasis++) {
                good("EMPHASIS " + emphasis, header(layer, 4, 1, 0) | emphasis, emphasis != 2);
            }
        }
    }

    private void ratesByMode() {
        edges.of("Term I", "and of Layer II: 32, 48, 56, 80 with MODE 3 alone,");
        boolean[] forOneAlone = {false, true, true, true, false, true, false};
        for (int mode = 0; mode < 4; mode++) {
            for (int rate = 1; rate <= 6; rate++) {
                good("RATE " + rate + ", MODE " + mode, header(2, rate, 1, mode), mode == 3 || !forOneAlone[rate]);
                good("Layer I, RATE " + rate + ", MODE " + mode, header(1, rate, 1, mode), true);
            }
        }
        edges.of("Term I", "224 and more not with MODE 3.");
        for (int mode = 0; mode < 4; mode++) {
            for (int rate = 9; rate <= 14; rate++) {
                good("RATE " + rate + ", MODE " + mode, header(2, rate, 1, mode), mode != 3 || rate <= 10);
                good("Layer I, RATE " + rate + ", MODE " + mode, header(1, rate, 1, mode), true);
            }
        }
    }

    private void bytes() {
        edges.of("Term I", "Bytes of the FRAME: Layer I: 4 * (12000 * kbit/s / SAMPLING, downwards, and PADDING);");
        // RATE, SAMPLING, bytes without PADDING: 8.7 and 121.9 are cut, the others are whole.
        int[][] first = {{1, 0, 32}, {1, 1, 32}, {1, 2, 48}, {14, 0, 484}, {14, 1, 448}, {14, 2, 672}, {2, 0, 68}, {11, 0, 380}};
        for (int[] f : first) {
            size(header(1, f[0], f[1], 3), f[2]);
            size(header(1, f[0], f[1], 3) | 0x200, f[2] + 4);
        }
        edges.of("Term I", "II: 144000 * kbit/s / SAMPLING, downwards, and PADDING.");
        // 104.5, 1253.9 and 208.98 are cut.
        int[][] second = {{1, 0, 104}, {1, 1, 96}, {1, 2, 144}, {14, 0, 1253}, {14, 1, 1152}, {14, 2, 1728}, {4, 0, 208}};
        for (int[] s : second) {
            int mode = s[0] == 1 ? 3 : 0;
            size(header(2, s[0], s[1], mode), s[2]);
            size(header(2, s[0], s[1], mode) | 0x200, s[2] + 1);
        }
    }

    private void size(int header, int bytes) {
        String name = Integer.toHexString(header);
        SoundBench x = tape(header, bytes - 1);
        edges.is(name + " less a byte: decode()", x.decode(), 0);
        edges.is(name + " less a byte: place", x.count(1), 0);
        x = tape(header, bytes);
        edges.is(name + ": decode()", x.decode(), 1);
        edges.is(name + ": bytes", x.frame(0, 2), bytes);
        edges.is(name + ": place", x.count(1), bytes);
        x = tape(header, bytes + 1);
        edges.is(name + " and a byte: decode()", x.decode(), 1);
        edges.is(name + " and a byte: place", x.count(1), bytes);
    }

    private void channels() {
        edges.of("Term I", "CHANNELS: 1 with MODE 3, else 2.");
        for (int layer = 1; layer <= 2; layer++) {
            for (int mode = 0; mode < 4; mode++) {
                SoundBench x = tape(header(layer, 4, 1, mode), 192);
                x.decode();
                int channels = mode == 3 ? 1 : 2;
                edges.is("MODE " + mode, x.frame(0, 7), channels);
                edges.is("MODE " + mode + ": PCM of 1", x.count(5), channels == 1 ? 0 : x.count(4));
                edges.is("MODE " + mode + ": steps of 0", x.steps(0, 0), 0);
                edges.is("MODE " + mode + ": steps of 1", x.steps(1, 0), channels == 1 ? -1 : 0);
                edges.is("MODE " + mode + ": steps of 2", x.steps(2, 0), -1);
            }
        }
    }

    private void frameTells() {
        edges.of("Promise 7", "Of FRAME k what 0: OUTCOME, 1: its first byte's place, 2: its bytes, 3: LAYER (1, 2), 4: kbit/s, "
                + "5: SAMPLING, 6: MODE, 7: CHANNELS, 8: BOUND, 9: how many PCM samples a CHANNEL has of it.");
        byte[] second = new FrameWriter(2, 4, 2, 1).padded().extension(3).bytes();
        byte[] bad = new FrameWriter(1, 14, 0, 2).put(15, 4).bytes();
        byte[] wrong = new FrameWriter(2, 1, 1, 3).checked(1).put(0, 26).coveredHere().bytes();
        byte[] last = new FrameWriter(1, 1, 1, 3).bytes();
        SoundBench x = Edges.decoded(new byte[] {0}, second, bad, new byte[] {0, 0}, wrong, last);
        int[][] want = {
            {0, 1, 289, 2, 64, 32000, 1, 2, 12, 1152},
            {2, 290, 484, 1, 448, 44100, 2, 2, 32, 0},
            {1, 776, 96, 2, 32, 48000, 3, 1, 8, 0},
            {0, 872, 32, 1, 32, 48000, 3, 1, 32, 384},
        };
        for (int k = 0; k < want.length; k++) {
            for (int what = 0; what < 10; what++) {
                edges.is("frame(" + k + ", " + what + ")", x.frame(k, what), want[k][what]);
            }
        }
        edges.of("Promise 7", "NONE without it, or for another what.");
        for (int what = 0; what < 10; what++) {
            for (int k : new int[] {LEAST, -1, 4, 5, GREATEST}) {
                edges.is("frame(" + k + ", " + what + ")", x.frame(k, what), -1);
            }
        }
        for (int k = 0; k < 4; k++) {
            for (int what : new int[] {LEAST, -1, 10, 11, GREATEST}) {
                edges.is("frame(" + k + ", " + what + ")", x.frame(k, what), -1);
            }
        }
        edges.is("neither", x.frame(4, 10), -1);
        SoundBench y = Tapes.of(last);
        edges.is("ahead of decode()", y.frame(0, 1), -1);
        y.decode();
        edges.is("behind it", y.frame(0, 1), 0);
        y.clear();
        edges.is("behind clear()", y.frame(0, 1), -1);
    }
}
