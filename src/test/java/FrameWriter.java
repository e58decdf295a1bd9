/** Writes one FRAME bit by bit: a HEADER from its fields, then the bits that a test puts behind it. */
final class FrameWriter {
    private static final int[] LAYER_TWO = {0, 32, 48, 56, 64, 80, 96, 112, 128, 160, 192, 224, 256, 320, 384};
    private static final int[] HERTZ = {44100, 48000, 32000};

    private final int layer;
    private final int rate;
    private final int sampling;
    private final int mode;
    private int padding;
    private int extension;
    private int emphasis;
    private boolean checked;
    private int checkFlaw;
    private final StringBuilder body = new StringBuilder();
    private int covered;

    /** Layer 1 or 2; rate, sampling and mode as the HEADER has them. */
    FrameWriter(int layer, int rate, int sampling, int mode) {
        this.layer = layer;
        this.rate = rate;
        this.sampling = sampling;
        this.mode = mode;
    }

    FrameWriter padded() {
        padding = 1;
        return this;
    }

    FrameWriter extension(int told) {
        extension = told;
        return this;
    }

    FrameWriter emphasis(int told) {
        emphasis = told;
        return this;
    }

    /** With a CHECK, which is right if the flaw is 0. */
    FrameWriter checked(int flaw) {
        checked = true;
        checkFlaw = flaw;
        return this;
    }

    FrameWriter put(int value, int bits) {
        for (int i = bits - 1; i >= 0; i--) {
            body.append((value >> i & 1) == 1 ? '1' : '0');
        }
        return this;
    }

    FrameWriter put(int value, int bits, int times) {
        for (int i = 0; i < times; i++) {
            put(value, bits);
        }
        return this;
    }

    /** The CHECK is of the bits put up to here. */
    FrameWriter coveredHere() {
        covered = body.length();
        return this;
    }

    int kbit() {
        return layer == 1 ? 32 * rate : LAYER_TWO[rate];
    }

    int size() {
        if (layer == 1) {
            return 4 * (12000 * kbit() / HERTZ[sampling] + padding);
        }
        return 144000 * kbit() / HERTZ[sampling] + padding;
    }

    int room() {
        return 8 * size() - 32 - (checked ? 16 : 0) - body.length();
    }

    int header() {
        return 0xFFF << 20 | 1 << 19 | 4 - layer << 17 | (checked ? 0 : 1) << 16 | rate << 12 | sampling << 10
                | padding << 9 | mode << 6 | extension << 4 | emphasis;
    }

    /** The FRAME with all its bytes: zeros behind what was put; what doesn't fit is left away. */
    byte[] bytes() {
        StringBuilder all = new StringBuilder(binary(header(), 32));
        if (checked) {
            String of = all.substring(16) + body.substring(0, covered);
            all.append(binary(checkOf(of) ^ checkFlaw, 16));
        }
        all.append(body);
        byte[] bytes = new byte[size()];
        for (int i = 0; i < Math.min(all.length(), 8 * bytes.length); i++) {
            if (all.charAt(i) == '1') {
                bytes[i / 8] |= (byte) (128 >> i % 8);
            }
        }
        return bytes;
    }

    /** By division of polynomials: another way than the class's, to the same remainder. */
    static int checkOf(String bits) {
        StringBuilder rest = new StringBuilder(bits + "0".repeat(16));
        for (int i = 0; i < 16; i++) {
            flip(rest, i);
        }
        String divisor = "11000000000000101";
        for (int i = 0; i < bits.length(); i++) {
            for (int k = 0; rest.charAt(i) == '1' && k < 17; k++) {
                if (divisor.charAt(16 - k) == '1') {
                    flip(rest, i + 16 - k);
                }
            }
        }
        return Integer.parseInt(rest.substring(bits.length()), 2);
    }

    private static void flip(StringBuilder bits, int i) {
        bits.setCharAt(i, bits.charAt(i) == '1' ? '0' : '1');
    }

    private static String binary(int value, int bits) {
        StringBuilder text = new StringBuilder();
        for (int i = bits - 1; i >= 0; i--) {
            text.append(value >> i & 1);
        }
        return text.toString();
    }
}
