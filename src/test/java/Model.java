import java.math.BigInteger;
import java.util.ArrayList;
import java.util.Arrays;
import java.util.List;

/** The document once more, word by word and without a thought for speed: what answers are due. */
final class Model {
    private static final String HALF_WINDOW = ""
            + "0 -1 -1 -1 -1 -1 -1 -2 -2 -2 -2 -3 -3 -4 -4 -5 -5 -6 -7 -7 -8 -9 -10 -11 -13 -14 -16 -17 -19 "
            + "-21 -24 -26 -29 -31 -35 -38 -41 -45 -49 -53 -58 -63 -68 -73 -79 -85 -91 -97 -104 -111 -117 -125 "
            + "-132 -139 -147 -154 -161 -169 -176 -183 -190 -196 -202 -208 213 218 222 225 227 228 228 227 224 "
            + "221 215 208 200 189 177 163 146 127 106 83 57 29 -2 -36 -72 -111 -153 -197 -244 -294 -347 -401 "
            + "-459 -519 -581 -645 -711 -779 -848 -919 -991 -1064 -1137 -1210 -1283 -1356 -1428 -1498 -1567 "
            + "-1634 -1698 -1759 -1817 -1870 -1919 -1962 -2001 -2032 -2057 -2075 -2085 -2087 -2080 -2063 2037 "
            + "2000 1952 1893 1822 1739 1644 1535 1414 1280 1131 970 794 605 402 185 -45 -288 -545 -814 -1095 "
            + "-1388 -1692 -2006 -2330 -2663 -3004 -3351 -3705 -4063 -4425 -4788 -5153 -5517 -5879 -6237 -6589 "
            + "-6935 -7271 -7597 -7910 -8209 -8491 -8755 -8998 -9219 -9416 -9585 -9727 -9838 -9916 -9959 -9966 "
            + "-9935 -9863 -9750 -9592 -9389 -9139 -8840 -8492 -8092 -7640 -7134 6574 5959 5288 4561 3776 2935 "
            + "2037 1082 70 -998 -2122 -3300 -4533 -5818 -7154 -8540 -9975 -11455 -12980 -14548 -16155 -17799 "
            + "-19478 -21189 -22929 -24694 -26482 -28289 -30112 -31947 -33791 -35640 -37489 -39336 -41176 "
            + "-43006 -44821 -46617 -48390 -50137 -51853 -53534 -55178 -56778 -58333 -59838 -61289 -62684 "
            + "-64019 -65290 -66494 -67629 -68692 -69679 -70590 -71420 -72169 -72835 -73415 -73908 -74313 "
            + "-74630 -74856 -74992 75038 ";
    private static final int[] WINDOW = window();
    private static final int[] COSINES = cosines();

    private final List<Integer> tape = new ArrayList<>();
    private int place;
    private final List<int[]> frames = new ArrayList<>();
    private final List<List<Integer>> pcm = List.of(new ArrayList<>(), new ArrayList<>());
    private final int[][] v = new int[2][1024];
    private Parsed latest;

    /** A FRAME's bits, and what they say. */
    private static final class Parsed {
        final String bits;
        int at;
        boolean beyond;
        boolean bad;
        int channels;
        int rows;
        final int[][] steps = new int[2][32];
        final int[][][] factors = new int[2][32][3];
        final int[][][] samples = new int[2][36][32];

        Parsed(String bits) {
            this.bits = bits;
        }

        int take(int n) {
            if (at + n > bits.length()) {
                beyond = true;
                at = bits.length();
                return 0;
            }
            at += n;
            return n == 0 ? 0 : Integer.parseInt(bits.substring(at - n, at), 2);
        }
    }

    int feed(int... words) {
        if (tape.size() + 20 > 4000) {
            return -1;
        }
        for (int word : words) {
            for (int shift = 24; shift >= 0; shift -= 8) {
                tape.add(word >> shift & 255);
            }
        }
        return tape.size();
    }

    int end(int n) {
        if (n > tape.size() || n < place) {
            return -1;
        }
        tape.subList(n, tape.size()).clear();
        return n;
    }

    int set(int i, int b) {
        return i < place || i >= tape.size() ? -1 : tape.set(i, b & 255);
    }

    int clear() {
        int had = frames.size();
        tape.clear();
        place = 0;
        frames.clear();
        pcm.forEach(List::clear);
        Arrays.fill(v[0], 0);
        Arrays.fill(v[1], 0);
        latest = null;
        return had;
    }

    int decode() {
        int found = 0;
        while (found < 40) {
            int at = place;
            while (at + 4 <= tape.size() && headerAt(at) == null) {
                at++;
            }
            if (at + 4 > tape.size()) {
                place = Math.max(place, tape.size() - 3);
                break;
            }
            place = at;
            int[] facts = headerAt(at);
            if (at + facts[2] > tape.size()) {
                break;
            }
            Parsed parsed = new Parsed(bits(at, facts[2]));
            facts[0] = outcome(facts, parsed);
            if (facts[0] == 0) {
                facts[9] = 32 * parsed.rows;
                latest = parsed;
                for (int c = 0; c < parsed.channels; c++) {
                    for (int t = 0; t < parsed.rows; t++) {
                        sound(c, parsed.samples[c][t]);
                    }
                }
            }
            frames.add(facts);
            place = at + facts[2];
            found++;
        }
        return found;
    }

    int frame(int k, int what) {
        return k < 0 || k >= frames.size() || what < 0 || what > 9 ? -1 : frames.get(k)[what];
    }

    int band(int channel, int band, int t) {
        return lacks(channel, band) || t < 0 || t >= latest.rows ? 0 : latest.samples[channel][t][band];
    }

    int steps(int channel, int band) {
        return lacks(channel, band) ? -1 : latest.steps[channel][band];
    }

    int factor(int channel, int band, int third) {
        if (lacks(channel, band) || latest.steps[channel][band] == 0 || third < 0 || third > 2) {
            return -1;
        }
        return latest.factors[channel][band][third];
    }

    int pcm(int channel, int i) {
        return channel < 0 || channel > 1 || i < 0 || i >= pcm.get(channel).size() ? 0 : pcm.get(channel).get(i);
    }

    int sum(int channel, int i, int j) {
        BigInteger sum = BigInteger.ZERO;
        if (i < 0 || j - 2000L > i) {
            return 0;
        }
        for (long p = i; p < j && p < 100000; p++) {
            sum = sum.add(BigInteger.valueOf(pcm(channel, (int) p) * (p - i + 1)));
        }
        return sum.intValue();
    }

    int memory(int channel, int i) {
        return channel < 0 || channel > 1 || i < 0 || i > 1023 ? 0 : v[channel][i];
    }

    int count(int what) {
        int decoded = 0;
        for (int[] facts : frames) {
            decoded += facts[0] == 0 ? 1 : 0;
        }
        int[] all = {tape.size(), place, frames.size(), decoded, pcm.get(0).size(), pcm.get(1).size()};
        return what < 0 || what > 5 ? -1 : all[what];
    }

    private boolean lacks(int channel, int band) {
        return latest == null || channel < 0 || channel >= latest.channels || band < 0 || band > 31;
    }

    private String bits(int at, int bytes) {
        StringBuilder text = new StringBuilder();
        for (int b : tape.subList(at, at + bytes)) {
            text.append(Integer.toBinaryString(256 + b).substring(1));
        }
        return text.toString();
    }

    /** What frame() tells, then the bands told and the table (1, 2) in 10 and 11; null without a GOOD one. */
    private int[] headerAt(int at) {
        return factsOf(bits(at, 4), at);
    }

    static int[] factsOf(String h, int at) {
        if (!h.startsWith("1111111111111")) {
            return null;
        }
        int layer = 4 - Integer.parseInt(h.substring(13, 15), 2);
        int rate = Integer.parseInt(h.substring(16, 20), 2);
        int sampling = Integer.parseInt(h.substring(20, 22), 2);
        int padding = h.charAt(22) - '0';
        int mode = Integer.parseInt(h.substring(24, 26), 2);
        int extension = Integer.parseInt(h.substring(26, 28), 2);
        if (layer > 2 || rate == 0 || rate == 15 || sampling == 3 || h.endsWith("10")) {
            return null;
        }
        int kbit = layer == 1 ? 32 * rate
                : List.of(32, 48, 56, 64, 80, 96, 112, 128, 160, 192, 224, 256, 320, 384).get(rate - 1);
        if (layer == 2 && (mode == 3 ? kbit >= 224 : List.of(32, 48, 56, 80).contains(kbit))) {
            return null;
        }
        int hertz = List.of(44100, 48000, 32000).get(sampling);
        int bytes = layer == 1 ? 4 * (12000 * kbit / hertz + padding) : 144000 * kbit / hertz + padding;
        int channels = mode == 3 ? 1 : 2;
        int k = kbit / channels;
        int bands = 12;
        int table = 2;
        if (layer == 1) {
            bands = 32;
        } else if (k >= 56 && k <= 80 || hertz == 48000 && k >= 56) {
            bands = 27;
            table = 1;
        } else if (k >= 96) {
            bands = 30;
            table = 1;
        } else if (hertz != 32000) {
            bands = 8;
        }
        int bound = mode == 1 ? Math.min(4 * (extension + 1), bands) : bands;
        return new int[] {2, at, bytes, layer, kbit, hertz, mode, channels, bound, 0, bands, table};
    }

    private static int outcome(int[] facts, Parsed p) {
        int layer = facts[3];
        int bound = facts[8];
        int bands = facts[10];
        p.channels = facts[7];
        p.rows = layer == 1 ? 12 : 36;
        p.at = 32;
        boolean checked = p.bits.charAt(15) == '0';
        int check = checked ? p.take(16) : 0;
        int first = p.at;
        for (int b = 0; b < bands; b++) {
            if (b < bound) {
                for (int c = 0; c < p.channels; c++) {
                    p.steps[c][b] = allocation(layer, facts[11], b, p);
                }
            } else {
                p.steps[0][b] = allocation(layer, facts[11], b, p);
                p.steps[1][b] = p.steps[0][b];
            }
        }
        int[][] selections = new int[2][32];
        for (int b = 0; layer == 2 && b < bands; b++) {
            for (int c = 0; c < p.channels; c++) {
                selections[c][b] = p.steps[c][b] > 0 ? p.take(2) : 0;
            }
        }
        if (p.beyond) {
            return 2;
        }
        if (checked && check != FrameWriter.checkOf(p.bits.substring(16, 32) + p.bits.substring(first, p.at))) {
            return 1;
        }
        for (int b = 0; b < bands; b++) {
            for (int c = 0; c < p.channels; c++) {
                if (p.steps[c][b] > 0) {
                    p.factors[c][b] = factors(layer, selections[c][b], p);
                }
            }
        }
        for (int g = 0; g < 12; g++) {
            for (int b = 0; b < bands; b++) {
                for (int c = 0; c < (b < bound ? p.channels : 1); c++) {
                    if (p.steps[c][b] > 0) {
                        triple(layer, g, b, c, b >= bound, p);
                    }
                }
            }
        }
        return p.beyond || p.bad ? 2 : 0;
    }

    private static int allocation(int layer, int table, int b, Parsed p) {
        if (layer == 1) {
            int a = p.take(4);
            p.bad |= a == 15;
            return a == 0 ? 0 : (int) Math.pow(2, a + 1) - 1;
        }
        String row = rowOf(table, b);
        int a = p.take(row.charAt(0) - '0');
        int[] lengths = {3, 5, 7, 9, 15, 31, 63, 127, 255, 511, 1023, 2047, 4095, 8191, 16383, 32767, 65535};
        return a == 0 ? 0 : lengths[Integer.parseInt(row.substring(3).split(" ")[a - 1])];
    }

    /** Of Layer II: the bits of a band's allocation, then the numbers of its STEPS. */
    static String rowOf(int table, int b) {
        if (table == 1) {
            return b <= 2 ? "4: 0 2 4 5 6 7 8 9 10 11 12 13 14 15 16" : b <= 10 ? "4: 0 1 2 3 4 5 6 7 8 9 10 11 12 13 16"
                    : b <= 22 ? "3: 0 1 2 3 4 5 16" : "2: 0 1 16";
        }
        return b <= 1 ? "4: 0 1 3 4 5 6 7 8 9 10 11 12 13 14 15" : "3: 0 1 3 4 5 6 7";
    }

    private static int factor(Parsed p) {
        int f = p.take(6);
        p.bad |= f == 63;
        return f;
    }

    private static int[] factors(int layer, int selection, Parsed p) {
        int a = factor(p);
        if (layer == 1 || selection == 2) {
            return new int[] {a, a, a};
        }
        int b = factor(p);
        switch (selection) {
            case 1:
                return new int[] {a, a, b};
            case 3:
                return new int[] {a, b, b};
            default:
                return new int[] {a, b, factor(p)};
        }
    }

    private static void triple(int layer, int g, int b, int c, boolean both, Parsed p) {
        int l = p.steps[c][b];
        int[] codes = new int[layer == 1 ? 1 : 3];
        if (layer == 2 && (l == 3 || l == 5 || l == 9)) {
            int code = p.take(l == 3 ? 5 : l == 5 ? 7 : 10);
            p.bad |= code >= l * l * l;
            codes = new int[] {code % l, code / l % l, code / l / l % l};
        } else {
            for (int i = 0; i < codes.length; i++) {
                codes[i] = p.take(Integer.toBinaryString(l).length());
                p.bad |= codes[i] == l;
            }
        }
        for (int i = 0; i < codes.length; i++) {
            int t = g * codes.length + i;
            p.samples[c][t][b] = sample(codes[i], l, p.factors[c][b][g / 4]);
            if (both) {
                p.samples[1][t][b] = sample(codes[i], l, p.factors[1][b][g / 4]);
            }
        }
    }

    private static int sample(int c, int l, int f) {
        BigInteger size = BigInteger.valueOf(List.of(2097152, 1664511, 1321123).get(f % 3)).shiftRight(f / 3);
        return BigInteger.valueOf(2L * c + 1 - l).multiply(size).divide(BigInteger.valueOf(l)).intValueExact();
    }

    private void sound(int channel, int[] x) {
        int[] u = v[channel];
        for (int i = 1023; i >= 64; i--) {
            u[i] = u[i - 64];
        }
        for (int i = 0; i < 64; i++) {
            long sum = 8192;
            for (int k = 0; k < 32; k++) {
                sum += (long) COSINES[(16 + i) * (2 * k + 1) % 128] * x[k];
            }
            u[i] = (int) Math.floorDiv(sum, 16384L);
        }
        for (int j = 0; j < 32; j++) {
            long sum = 1048576;
            for (int i = 0; i < 8; i++) {
                sum += (long) WINDOW[64 * i + j] * u[128 * i + j];
                sum += (long) WINDOW[64 * i + 32 + j] * u[128 * i + 96 + j];
            }
            long out = Math.floorDiv(sum, 2097152L);
            pcm.get(channel).add((int) (out < -32768 ? -32768 : out > 32767 ? 32767 : out));
        }
    }

    /** C as what it stands for, so that the class's numbers are not only compared with a copy. */
    private static int[] cosines() {
        int[] all = new int[128];
        for (int n = 0; n < 128; n++) {
            all[n] = (int) Math.rint(16384 * Math.cos(Math.PI * n / 64));
        }
        return all;
    }

    /** W(n) of Term V, 0 to 511. */
    static int windowAt(int n) {
        return WINDOW[n];
    }

    private static int[] window() {
        String[] half = HALF_WINDOW.trim().split(" ");
        int[] whole = new int[512];
        for (int n = 0; n <= 256; n++) {
            whole[n] = Integer.parseInt(half[n]);
        }
        for (int n = 1; n < 256; n++) {
            whole[512 - n] = n % 64 == 0 ? whole[n] : -whole[n];
        }
        return whole;
    }
}
