import java.util.ArrayList;
import java.util.Arrays;

/**
 * A decoder of MPEG-1 Audio, Layers I and II, in whole numbers alone. A TAPE of bytes is fed; decode() finds
 * its FRAMES, checks them and sounds them to PCM; the other calls tell what came of it.
 */
public final class SoundBench {
    public static final int NONE = -1;

    private static final int TAPE_LIMIT = 4000;
    private static final int FED_BYTES = 20;
    // Of a number that is fed, and of a HEADER.
    private static final int WORD_BYTES = 4;
    private static final int FRAMES_A_CALL = 40;
    private static final int SUM_LIMIT = 2000;

    private static final int DECODED = 0;
    private static final int CHECK_WRONG = 1;
    private static final int BAD = 2;

    private static final int CHANNEL_LIMIT = 2;
    private static final int BANDS = 32;
    private static final int ROW_LIMIT = 36;
    private static final int THIRDS = 3;
    private static final int GRANULES = 12;
    private static final int GRANULES_A_THIRD = 4;

    private final int[] tape;
    private int length;
    private int place;
    private final ArrayList<Frame> frames;
    private int decoded;
    private final FrameReader reader;
    // A FRAME is read into spare and changes places with latest only when it is DECODED,
    // so a FRAME that turns out BAD half way leaves nothing behind.
    private Content latest;
    private Content spare;
    private final Voice firstVoice;
    private final Voice secondVoice;

    public SoundBench() {
        tape = new int[TAPE_LIMIT];
        length = 0;
        place = 0;
        frames = new ArrayList<>();
        decoded = 0;
        reader = new FrameReader();
        latest = new Content();
        spare = new Content();
        Waves waves = new Waves();
        firstVoice = new Voice(waves);
        secondVoice = new Voice(waves);
    }

    public int feed(int a, int b, int c, int d, int e) {
        if (length + FED_BYTES > TAPE_LIMIT) {
            return NONE;
        }
        appendWord(a);
        appendWord(b);
        appendWord(c);
        appendWord(d);
        appendWord(e);
        return length;
    }

    public int end(int n) {
        if (n > length || n < place) {
            return NONE;
        }
        length = n;
        return n;
    }

    public int set(int i, int b) {
        if (i < place || i >= length) {
            return NONE;
        }
        int before = tape[i];
        tape[i] = b & 255;
        return before;
    }

    public int clear() {
        int before = frames.size();
        length = 0;
        place = 0;
        frames.clear();
        decoded = 0;
        firstVoice.silence();
        secondVoice.silence();
        return before;
    }

    public int decode() {
        for (int found = 0; found < FRAMES_A_CALL; found++) {
            if (!passFrame()) {
                return found;
            }
        }
        return FRAMES_A_CALL;
    }

    public int frame(int k, int what) {
        if (k < 0 || k >= frames.size()) {
            return NONE;
        }
        return frames.get(k).tell(what);
    }

    public int band(int channel, int band, int t) {
        if (!hasBand(channel, band) || t < 0 || t >= latest.rows) {
            return 0;
        }
        return latest.samples[Content.rowIndex(channel, t) + band];
    }

    public int steps(int channel, int band) {
        if (!hasBand(channel, band)) {
            return NONE;
        }
        return latest.steps[Content.bandIndex(channel, band)];
    }

    public int factor(int channel, int band, int third) {
        if (!hasBand(channel, band) || third < 0 || third >= THIRDS) {
            return NONE;
        }
        int index = Content.bandIndex(channel, band);
        if (latest.steps[index] == 0) {
            return NONE;
        }
        return latest.factors[index * THIRDS + third];
    }

    public int pcm(int channel, int i) {
        if (channel == 0) {
            return firstVoice.sampleAt(i);
        }
        return channel == 1 ? secondVoice.sampleAt(i) : 0;
    }

    public int sum(int channel, int i, int j) {
        // As longs, for i and 2000 may be beyond the ints.
        if (i < 0 || (long) j > (long) i + SUM_LIMIT) {
            return 0;
        }
        if (channel == 0) {
            return firstVoice.weightedSum(i, j);
        }
        return channel == 1 ? secondVoice.weightedSum(i, j) : 0;
    }

    public int memory(int channel, int i) {
        if (channel == 0) {
            return firstVoice.numberAt(i);
        }
        return channel == 1 ? secondVoice.numberAt(i) : 0;
    }

    public int count(int what) {
        switch (what) {
            case 0:
                return length;
            case 1:
                return place;
            case 2:
                return frames.size();
            case 3:
                return decoded;
            case 4:
                return firstVoice.made;
            case 5:
                return secondVoice.made;
            default:
                return NONE;
        }
    }

    private void appendWord(int word) {
        if (length + WORD_BYTES > TAPE_LIMIT) {
            return;
        }
        tape[length] = word >>> 24;
        tape[length + 1] = word >>> 16 & 255;
        tape[length + 2] = word >>> 8 & 255;
        tape[length + 3] = word & 255;
        length += WORD_BYTES;
    }

    private int wordAt(int at) {
        if (at < 0 || at + WORD_BYTES > length) {
            return 0;
        }
        return tape[at] << 24 | tape[at + 1] << 16 | tape[at + 2] << 8 | tape[at + 3];
    }

    private int findHeader() {
        for (int at = place; at + WORD_BYTES <= length; at++) {
            if (Frame.isGood(wordAt(at))) {
                return at;
            }
        }
        return NONE;
    }

    /** Goes on behind the next FRAME; false, if decode() stops ahead of it. */
    private boolean passFrame() {
        int at = findHeader();
        if (at == NONE) {
            // The last three bytes may yet begin a HEADER when more is fed.
            place = Math.max(place, length - (WORD_BYTES - 1));
            return false;
        }
        place = at;
        Frame next = new Frame(wordAt(at), at);
        if (next.bytes > length - at) {
            return false;
        }
        place = at + next.bytes;
        next.outcome = reader.read(tape, next, spare);
        frames.add(next);
        if (next.outcome == DECODED) {
            acceptSpare();
        }
        return true;
    }

    private void acceptSpare() {
        Content read = spare;
        spare = latest;
        latest = read;
        decoded++;
        firstVoice.sound(read, 0);
        if (read.channels == CHANNEL_LIMIT) {
            secondVoice.sound(read, 1);
        }
    }

    private boolean hasBand(int channel, int band) {
        return decoded > 0 && channel >= 0 && channel < latest.channels && band >= 0 && band < BANDS;
    }

    /** What a HEADER says of its FRAME, and the FRAME's OUTCOME. */
    private static final class Frame {
        private static final int SINGLE = 3;
        private static final int JOINT = 1;
        private static final int[] LAYER_TWO_RATES = {
            0, 32, 48, 56, 64, 80, 96, 112, 128, 160, 192, 224, 256, 320, 384
        };
        private static final int[] SAMPLINGS = {44100, 48000, 32000};
        // What the allocations 1, 2, .. of Layer II are, as numbers of STEPS: of the first table by band ..
        private static final int[] FIRST_TO_2 = {0, 2, 4, 5, 6, 7, 8, 9, 10, 11, 12, 13, 14, 15, 16};
        private static final int[] FIRST_TO_10 = {0, 1, 2, 3, 4, 5, 6, 7, 8, 9, 10, 11, 12, 13, 16};
        private static final int[] FIRST_TO_22 = {0, 1, 2, 3, 4, 5, 16};
        private static final int[] FIRST_TO_29 = {0, 1, 16};
        // .. and of the second.
        private static final int[] SECOND_TO_1 = {0, 1, 3, 4, 5, 6, 7, 8, 9, 10, 11, 12, 13, 14, 15};
        private static final int[] SECOND_TO_11 = {0, 1, 3, 4, 5, 6, 7};

        final int start;
        final int layer;
        final boolean checked;
        final int rate;
        final int sampling;
        final int bytes;
        final int mode;
        final int channels;
        final int bands;
        final boolean firstTable;
        final int bound;
        int outcome;

        /** Of a GOOD HEADER. */
        Frame(int word, int start) {
            this.start = start;
            layer = layerOf(word);
            checked = (word >>> 16 & 1) == 0;
            rate = rateOf(word);
            sampling = samplingOf(word);
            bytes = bytesOf(layer, rate, sampling, word >>> 9 & 1);
            mode = modeOf(word);
            channels = mode == SINGLE ? 1 : 2;
            int channelRate = rate / channels;
            bands = layer == 1 ? BANDS : layerTwoBands(channelRate, sampling);
            firstTable = channelRate >= 56;
            bound = mode == JOINT ? Math.min(4 * ((word >>> 4 & 3) + 1), bands) : bands;
            outcome = BAD;
        }

        static boolean isGood(int word) {
            boolean marked = word >>> 20 == 0xFFF && (word >>> 19 & 1) == 1;
            if (!marked || layerOf(word) == 0 || samplingOf(word) == 0 || (word & 3) == 2) {
                return false;
            }
            int kbit = rateOf(word);
            return kbit != 0 && (layerOf(word) == 1 || suitsMode(kbit, modeOf(word)));
        }

        int tell(int what) {
            switch (what) {
                case 0:
                    return outcome;
                case 1:
                    return start;
                case 2:
                    return bytes;
                case 3:
                    return layer;
                case 4:
                    return rate;
                case 5:
                    return sampling;
                case 6:
                    return mode;
                case 7:
                    return channels;
                case 8:
                    return bound;
                case 9:
                    return outcome == DECODED ? GRANULES * samplesAtOnce() * BANDS : 0;
                default:
                    return NONE;
            }
        }

        /** How many rows of samples come in one of the twelve goes through the bands. */
        int samplesAtOnce() {
            return layer == 1 ? 1 : 3;
        }

        /** How many CHANNELS a band has allocations and codes of its own for. */
        int channelsTold(int band) {
            return band < bound ? channels : 1;
        }

        int allocationBits(int band) {
            // A table names one number for each allocation but 0, so its length is all ones.
            return layer == 1 ? 4 : Integer.bitCount(stepNumbers(band).length);
        }

        /** L of an allocation; 0: none; NONE: a BAD one. */
        int stepsOf(int band, int allocation) {
            if (allocation == 0) {
                return 0;
            }
            if (layer == 1) {
                return allocation > 0 && allocation < 15 ? (1 << allocation + 1) - 1 : NONE;
            }
            int[] numbers = stepNumbers(band);
            if (allocation < 0 || allocation > numbers.length) {
                return NONE;
            }
            int number = numbers[allocation - 1];
            return number < 4 ? 2 * number + 3 : (1 << number) - 1;
        }

        private int[] stepNumbers(int band) {
            if (!firstTable) {
                return band < 2 ? SECOND_TO_1 : SECOND_TO_11;
            }
            if (band < 11) {
                return band < 3 ? FIRST_TO_2 : FIRST_TO_10;
            }
            return band < 23 ? FIRST_TO_22 : FIRST_TO_29;
        }

        /** 1 or 2; 0 without. */
        private static int layerOf(int word) {
            int told = word >>> 17 & 3;
            return told >= 2 ? 4 - told : 0;
        }

        private static int modeOf(int word) {
            return word >>> 6 & 3;
        }

        /** In Hz; 0 without. */
        private static int samplingOf(int word) {
            int told = word >>> 10 & 3;
            return told < SAMPLINGS.length ? SAMPLINGS[told] : 0;
        }

        /** In kbit/s; 0 without. */
        private static int rateOf(int word) {
            int told = word >>> 12 & 15;
            if (told >= LAYER_TWO_RATES.length) {
                return 0;
            }
            return layerOf(word) == 1 ? 32 * told : LAYER_TWO_RATES[told];
        }

        private static boolean suitsMode(int kbit, int mode) {
            if (kbit == 32 || kbit == 48 || kbit == 56 || kbit == 80) {
                return mode == SINGLE;
            }
            return kbit < 224 || mode != SINGLE;
        }

        private static int bytesOf(int layer, int kbit, int sampling, int padding) {
            if (sampling <= 0) {
                return 0;
            }
            if (layer == 1) {
                return 4 * (12000 * kbit / sampling + padding);
            }
            return 144000 * kbit / sampling + padding;
        }

        private static int layerTwoBands(int channelRate, int sampling) {
            if (channelRate >= 56) {
                return channelRate <= 80 || sampling == 48000 ? 27 : 30;
            }
            return sampling == 32000 ? 12 : 8;
        }
    }

    /** What a FRAME holds: steps, factors and samples of its bands. */
    private static final class Content {
        private static final int[] FACTOR_TOPS = {2097152, 1664511, 1321123};

        int channels;
        int rows;
        final int[] steps = new int[CHANNEL_LIMIT * BANDS];
        final int[] factors = new int[CHANNEL_LIMIT * BANDS * THIRDS];
        final int[] samples = new int[CHANNEL_LIMIT * ROW_LIMIT * BANDS];

        static int bandIndex(int channel, int band) {
            return channel * BANDS + band;
        }

        static int rowIndex(int channel, int t) {
            return (channel * ROW_LIMIT + t) * BANDS;
        }

        void wipe(int channelCount, int rowCount) {
            channels = channelCount;
            rows = rowCount;
            Arrays.fill(steps, 0);
            Arrays.fill(factors, 0);
            Arrays.fill(samples, 0);
        }

        static int sampleOf(int code, int steps, int factor) {
            if (steps <= 0 || factor < 0) {
                return 0;
            }
            long size = FACTOR_TOPS[factor % 3] >> factor / 3;
            return (int) ((2 * code + 1 - steps) * size / steps);
        }
    }

    /** The bits of one FRAME on the TAPE, from the highest of each byte on. */
    private static final class Bits {
        private int[] tape = new int[0];
        private int firstByte;
        private int limit;
        int position;
        // Stays once a bit was asked for that the FRAME hasn't.
        boolean beyond;

        void open(int[] bytes, int first, int count) {
            tape = bytes;
            firstByte = Math.max(first, 0);
            limit = 8 * Math.min(count, bytes.length - firstByte);
            position = 0;
            beyond = false;
        }

        int take(int count) {
            if (position < 0 || count > limit - position) {
                beyond = true;
                return 0;
            }
            int value = 0;
            for (int i = 0; i < count; i++) {
                int bit = tape[firstByte + (position >> 3)] >> 7 - (position & 7) & 1;
                value = value << 1 | bit;
                position++;
            }
            return value;
        }
    }

    /** Reads a FRAME's bits into a Content, and says what the OUTCOME is. */
    private static final class FrameReader {
        private static final int HEADER_BITS = 32;
        private static final int CHECK_BITS = 16;
        private static final int BAD_FACTOR = 63;
        private static final int ONE_FACTOR = 2;

        private final Bits bits = new Bits();
        private final int[] selections = new int[CHANNEL_LIMIT * BANDS];
        private final int[] codes = new int[3];
        private boolean bad;

        int read(int[] tape, Frame frame, Content content) {
            bits.open(tape, frame.start, frame.bytes);
            bad = false;
            content.wipe(frame.channels, GRANULES * frame.samplesAtOnce());
            bits.take(HEADER_BITS);
            int check = frame.checked ? bits.take(CHECK_BITS) : 0;
            takeAllocations(frame, content);
            takeSelections(frame, content);
            if (bits.beyond) {
                return BAD;
            }
            if (frame.checked && check != checkOfBits()) {
                return CHECK_WRONG;
            }
            takeFactors(frame, content);
            takeSamples(frame, content);
            return isLost() ? BAD : DECODED;
        }

        private boolean isLost() {
            return bad || bits.beyond;
        }

        private void takeAllocations(Frame frame, Content content) {
            for (int band = 0; band < frame.bands; band++) {
                int told = frame.channelsTold(band);
                for (int channel = 0; channel < told; channel++) {
                    int steps = takeSteps(frame, band);
                    for (int to = channel; to < frame.channels; to++) {
                        content.steps[Content.bandIndex(to, band)] = steps;
                    }
                }
            }
        }

        private int takeSteps(Frame frame, int band) {
            int steps = frame.stepsOf(band, bits.take(frame.allocationBits(band)));
            if (steps == NONE) {
                // Only noted here: a wrong CHECK comes ahead of it.
                bad = true;
                return 0;
            }
            return steps;
        }

        private void takeSelections(Frame frame, Content content) {
            // Layer I has none; its one factor is as of the SELECTION that has one for all thirds.
            Arrays.fill(selections, ONE_FACTOR);
            if (frame.layer == 1) {
                return;
            }
            for (int band = 0; band < frame.bands; band++) {
                for (int channel = 0; channel < frame.channels; channel++) {
                    int index = Content.bandIndex(channel, band);
                    if (content.steps[index] != 0) {
                        selections[index] = bits.take(2);
                    }
                }
            }
        }

        /** The CHECK of what has been taken, but for the HEADER's first half and the CHECK's own bits. */
        private int checkOfBits() {
            int taken = bits.position;
            int check = checkOver(0xFFFF, HEADER_BITS / 2, HEADER_BITS);
            return checkOver(check, HEADER_BITS + CHECK_BITS, taken);
        }

        /** Leaves the bits' position at the end of what it goes over. */
        private int checkOver(int begun, int from, int to) {
            int check = begun;
            bits.position = from;
            for (int at = from; at < to; at++) {
                int moved = check << 1 & 0xFFFF;
                check = check >> 15 != bits.take(1) ? moved ^ 0x8005 : moved;
            }
            return check;
        }

        private void takeFactors(Frame frame, Content content) {
            for (int band = 0; band < frame.bands; band++) {
                for (int channel = 0; channel < frame.channels; channel++) {
                    int index = Content.bandIndex(channel, band);
                    if (content.steps[index] != 0) {
                        takeThirds(selections[index], content.factors, index * THIRDS);
                    }
                }
            }
        }

        private void takeThirds(int selection, int[] factors, int at) {
            if (at < 0 || at + 2 >= factors.length) {
                return;
            }
            factors[at] = takeFactor();
            boolean secondIsNew = selection == 0 || selection == 3;
            factors[at + 1] = secondIsNew ? takeFactor() : factors[at];
            boolean thirdIsNew = selection == 0 || selection == 1;
            factors[at + 2] = thirdIsNew ? takeFactor() : factors[at + 1];
        }

        private int takeFactor() {
            int factor = bits.take(6);
            if (factor == BAD_FACTOR) {
                bad = true;
            }
            return factor;
        }

        private void takeSamples(Frame frame, Content content) {
            for (int granule = 0; granule < GRANULES && !isLost(); granule++) {
                for (int band = 0; band < frame.bands; band++) {
                    takeBand(frame, content, granule, band);
                }
            }
        }

        private void takeBand(Frame frame, Content content, int granule, int band) {
            int told = frame.channelsTold(band);
            for (int channel = 0; channel < told; channel++) {
                int steps = content.steps[Content.bandIndex(channel, band)];
                if (steps == 0) {
                    continue;
                }
                takeCodes(frame.samplesAtOnce(), steps);
                int last = told < frame.channels ? frame.channels - 1 : channel;
                for (int to = channel; to <= last; to++) {
                    placeSamples(frame.samplesAtOnce(), content, granule, to, band);
                }
            }
        }

        private void placeSamples(int atOnce, Content content, int granule, int channel, int band) {
            int index = Content.bandIndex(channel, band);
            int factor = content.factors[index * THIRDS + granule / GRANULES_A_THIRD];
            for (int i = 0; i < atOnce && i < codes.length; i++) {
                int row = Content.rowIndex(channel, granule * atOnce + i);
                content.samples[row + band] = Content.sampleOf(codes[i], content.steps[index], factor);
            }
        }

        private void takeCodes(int atOnce, int steps) {
            int groupBits = atOnce == codes.length ? groupBitsOf(steps) : 0;
            if (groupBits > 0) {
                splitGroup(bits.take(groupBits), steps);
                return;
            }
            for (int i = 0; i < atOnce && i < codes.length; i++) {
                // Steps that are not grouped are all ones.
                codes[i] = bits.take(Integer.bitCount(steps));
                if (codes[i] == steps) {
                    bad = true;
                }
            }
        }

        /** 0, if these steps have a code for each sample. */
        private static int groupBitsOf(int steps) {
            switch (steps) {
                case 3:
                    return 5;
                case 5:
                    return 7;
                case 9:
                    return 10;
                default:
                    return 0;
            }
        }

        private void splitGroup(int code, int steps) {
            if (steps <= 0) {
                return;
            }
            if (code >= steps * steps * steps) {
                bad = true;
            }
            int rest = code;
            for (int i = 0; i < codes.length; i++) {
                codes[i] = rest % steps;
                rest /= steps;
            }
        }
    }

    /** The numbers C and W, laid out whole, for the sums of the synthesis. */
    private static final class Waves {
        private static final int[] QUARTER = {
            16384, 16364, 16305, 16207, 16069, 15893, 15679, 15426, 15137, 14811, 14449, 14053, 13623, 13160, 12665, 12140,
            11585, 11003, 10394, 9760, 9102, 8423, 7723, 7005, 6270, 5520, 4756, 3981, 3196, 2404, 1606, 804, 0
        };
        private static final int[] HALF_WINDOW = {
            0, -1, -1, -1, -1, -1, -1, -2, -2, -2, -2, -3, -3, -4, -4, -5, -5, -6, -7, -7, -8, -9, -10, -11, -13,
            -14, -16, -17, -19, -21, -24, -26, -29, -31, -35, -38, -41, -45, -49, -53, -58, -63, -68, -73, -79, -85,
            -91, -97, -104, -111, -117, -125, -132, -139, -147, -154, -161, -169, -176, -183, -190, -196, -202,
            -208, 213, 218, 222, 225, 227, 228, 228, 227, 224, 221, 215, 208, 200, 189, 177, 163, 146, 127, 106, 83,
            57, 29, -2, -36, -72, -111, -153, -197, -244, -294, -347, -401, -459, -519, -581, -645, -711, -779,
            -848, -919, -991, -1064, -1137, -1210, -1283, -1356, -1428, -1498, -1567, -1634, -1698, -1759, -1817,
            -1870, -1919, -1962, -2001, -2032, -2057, -2075, -2085, -2087, -2080, -2063, 2037, 2000, 1952, 1893,
            1822, 1739, 1644, 1535, 1414, 1280, 1131, 970, 794, 605, 402, 185, -45, -288, -545, -814, -1095, -1388,
            -1692, -2006, -2330, -2663, -3004, -3351, -3705, -4063, -4425, -4788, -5153, -5517, -5879, -6237, -6589,
            -6935, -7271, -7597, -7910, -8209, -8491, -8755, -8998, -9219, -9416, -9585, -9727, -9838, -9916, -9959,
            -9966, -9935, -9863, -9750, -9592, -9389, -9139, -8840, -8492, -8092, -7640, -7134, 6574, 5959, 5288,
            4561, 3776, 2935, 2037, 1082, 70, -998, -2122, -3300, -4533, -5818, -7154, -8540, -9975, -11455, -12980,
            -14548, -16155, -17799, -19478, -21189, -22929, -24694, -26482, -28289, -30112, -31947, -33791, -35640,
            -37489, -39336, -41176, -43006, -44821, -46617, -48390, -50137, -51853, -53534, -55178, -56778, -58333,
            -59838, -61289, -62684, -64019, -65290, -66494, -67629, -68692, -69679, -70590, -71420, -72169, -72835,
            -73415, -73908, -74313, -74630, -74856, -74992, 75038
        };

        final int[] cosines = new int[128];
        final int[] window = new int[512];

        Waves() {
            for (int n = 0; n < cosines.length; n++) {
                cosines[n] = cosineOf(n);
            }
            for (int n = 0; n < window.length; n++) {
                window[n] = windowOf(n);
            }
        }

        private static int cosineOf(int n) {
            int folded = n > 64 ? 128 - n : n;
            return folded > 32 ? -quarterAt(64 - folded) : quarterAt(folded);
        }

        private static int quarterAt(int n) {
            return n >= 0 && n < QUARTER.length ? QUARTER[n] : 0;
        }

        private static int windowOf(int n) {
            if (n <= 256) {
                return halfWindowAt(n);
            }
            int mirrored = halfWindowAt(512 - n);
            return n % 64 == 0 ? mirrored : -mirrored;
        }

        private static int halfWindowAt(int n) {
            return n >= 0 && n < HALF_WINDOW.length ? HALF_WINDOW[n] : 0;
        }
    }

    /** The synthesis of one CHANNEL: its numbers v, and the PCM that it made. */
    private static final class Voice {
        private static final int NUMBERS = 1024;
        private static final int ROW_NUMBERS = 64;

        private final Waves waves;
        // v goes round: v(i) stands at newest + i, so that going up moves nothing.
        private final int[] numbers = new int[NUMBERS];
        private int newest;
        private final long[] sums = new long[ROW_NUMBERS];
        private int[] samples = new int[0];
        int made;

        Voice(Waves waves) {
            this.waves = waves;
        }

        void silence() {
            Arrays.fill(numbers, 0);
            newest = 0;
            made = 0;
        }

        int sampleAt(int i) {
            return i >= 0 && i < made && i < samples.length ? samples[i] : 0;
        }

        int numberAt(int i) {
            return i >= 0 && i < NUMBERS ? numbers[newest + i & NUMBERS - 1] : 0;
        }

        int weightedSum(int from, int to) {
            int end = Math.min(to, made);
            int sum = 0;
            for (int at = from; at < end; at++) {
                sum += sampleAt(at) * (at - from + 1);
            }
            return sum;
        }

        void sound(Content content, int channel) {
            makeRoom(content.rows * BANDS);
            for (int t = 0; t < content.rows; t++) {
                takeRow(content.samples, Content.rowIndex(channel, t));
                makeSamples();
            }
        }

        private void makeRoom(int more) {
            int needed = made + more;
            if (needed > samples.length) {
                samples = Arrays.copyOf(samples, Math.max(needed, 2 * samples.length));
            }
        }

        private void takeRow(int[] row, int first) {
            Arrays.fill(sums, 0);
            if (first >= 0 && first + BANDS <= row.length) {
                for (int band = 0; band < BANDS; band++) {
                    addBand(row[first + band], 2 * band + 1);
                }
            }
            newest = newest - ROW_NUMBERS & NUMBERS - 1;
            for (int i = 0; i < ROW_NUMBERS; i++) {
                numbers[newest + i & NUMBERS - 1] = (int) (sums[i] + 8192 >> 14);
            }
        }

        private void addBand(int sample, int pace) {
            // Most bands of a FRAME are without an allocation.
            if (sample == 0) {
                return;
            }
            for (int i = 0; i < ROW_NUMBERS; i++) {
                sums[i] += (long) waves.cosines[(16 + i) * pace & 127] * sample;
            }
        }

        private void makeSamples() {
            if (made + BANDS > samples.length) {
                return;
            }
            for (int j = 0; j < BANDS; j++) {
                samples[made + j] = makeSample(j);
            }
            made += BANDS;
        }

        private int makeSample(int j) {
            long sum = 1048576;
            for (int i = 0; i < 8; i++) {
                int at = newest + 128 * i + j;
                int tap = 64 * i + j & 511;
                sum += (long) waves.window[tap] * numbers[at & NUMBERS - 1];
                sum += (long) waves.window[tap + 32 & 511] * numbers[at + 96 & NUMBERS - 1];
            }
            return (int) Math.max(-32768, Math.min(32767, sum >> 21));
        }
    }
}
