/** Boundaries of what is asked for: promises 8 to 14. */
final class AnswerEdges {
    private static final int LEAST = Integer.MIN_VALUE;
    private static final int GREATEST = Integer.MAX_VALUE;
    private static final int[] NO_CHANNEL = {LEAST, -1, 2, 3, GREATEST};
    private static final int[] NO_BAND = {LEAST, -1, 32, 33, 64, GREATEST};
    private static final int[] NO_THIRD = {LEAST, -1, 3, 4, GREATEST};
    private static final byte[] BAD = new FrameWriter(1, 1, 1, 3).put(15, 4).bytes();
    private static final byte[] WRONG = new FrameWriter(1, 1, 1, 3).checked(1).put(0, 4, 32).coveredHere().bytes();

    private final Edges edges;

    AnswerEdges(Edges edges) {
        this.edges = edges;
    }

    void ask() {
        bandsOfLayerOne();
        bandsOfLayerTwo();
        bandsWithout();
        steps();
        factors();
        pcm();
        sums();
        sumsOfWhatIsNotThere();
        sumsRefused();
        memory();
        counts();
    }

    /** Layer I, both CHANNELS, all 32 bands of three steps, each with a factor of its own, all codes 2. */
    private static byte[] fullOne() {
        FrameWriter writer = new FrameWriter(1, 9, 1, 0).put(1, 4, 64);
        for (int band = 0; band < 32; band++) {
            writer.put(band, 6).put(band + 31, 6);
        }
        return writer.put(2, 2, 12 * 64).bytes();
    }

    /** Layer II, both CHANNELS, all 30 bands of three steps, factors 1, 2, 3 by third, all codes 26 (2, 2, 2). */
    private static byte[] fullTwo() {
        FrameWriter writer = new FrameWriter(2, 14, 0, 0).put(1, 4, 22).put(1, 3, 24).put(1, 2, 14).put(0, 2, 60);
        for (int i = 0; i < 60; i++) {
            writer.put(3, 6).put(6, 6).put(9, 6);
        }
        return writer.put(26, 5, 12 * 60).bytes();
    }

    private static long ofFactor(int f) {
        return 2 * ((f % 3 == 0 ? 2097152L : f % 3 == 1 ? 1664511 : 1321123) >> f / 3) / 3;
    }

    private void bandsOfLayerOne() {
        edges.of("Promise 8", "Of the latest FRAME that was DECODED: of a CHANNEL's band the SAMPLE of row t (0 to 11, of Layer II 0 to 35).");
        SoundBench x = Edges.decoded(fullOne());
        edges.is("OUTCOME", x.frame(0, 0), 0);
        for (int channel = 0; channel < 2; channel++) {
            for (int band = 0; band < 32; band++) {
                for (int t : new int[] {0, 11}) {
                    edges.is("band(" + channel + ", " + band + ", " + t + ")", x.band(channel, band, t), ofFactor(band + 31 * channel));
                }
            }
            for (int t : new int[] {LEAST, -1, 12, 13, 35, 36, GREATEST}) {
                edges.is("row " + t, x.band(channel, 0, t), 0);
                edges.is("row " + t + " of band 31", x.band(channel, 31, t), 0);
            }
        }
    }

    private void bandsOfLayerTwo() {
        SoundBench x = Edges.decoded(fullTwo());
        edges.is("OUTCOME", x.frame(0, 0), 0);
        for (int channel = 0; channel < 2; channel++) {
            for (int band : new int[] {0, 29}) {
                for (int t : new int[] {0, 11, 12, 23, 24, 35}) {
                    edges.is("band(" + channel + ", " + band + ", " + t + ")", x.band(channel, band, t), ofFactor(3 + 3 * (t / 12)));
                }
                for (int t : new int[] {LEAST, -1, 36, 37, 71, 72, GREATEST}) {
                    edges.is("band(" + channel + ", " + band + ", " + t + ")", x.band(channel, band, t), 0);
                }
            }
        }
        // The latest that was DECODED: not the one before it, and not one behind it that was not.
        x = Edges.decoded(fullTwo(), fullOne());
        edges.is("row 11 of the latest", x.band(0, 0, 11), ofFactor(0));
        edges.is("row 12 of the one before", x.band(0, 0, 12), 0);
        x = Edges.decoded(fullOne(), fullTwo());
        edges.is("row 12 of the latest", x.band(0, 0, 12), ofFactor(6));
        edges.is("band 31 of the one before", x.band(0, 31, 0), 0);
        x = Edges.decoded(fullOne(), BAD, WRONG);
        edges.is("behind a BAD one and a wrong one", x.band(1, 31, 11), ofFactor(62));
        edges.is("which were FRAMES", x.count(2), 3);
        // A FRAME that turns out BAD at its very last code.
        byte[] late = new FrameWriter(1, 1, 1, 3).put(1, 4).put(0, 4, 31).put(0, 6).put(0, 2, 11).put(3, 2).bytes();
        x = Edges.decoded(fullOne(), late);
        edges.is("BAD at its last code: OUTCOME", x.frame(1, 0), 2);
        edges.is("BAD at its last code: row 0", x.band(0, 0, 0), ofFactor(0));
        edges.is("BAD at its last code: CHANNEL 1", x.band(1, 0, 0), ofFactor(31));
    }

    private void bandsWithout() {
        edges.of("Promise 8", "0 without.");
        SoundBench x = Edges.decoded(fullOne());
        for (int channel : NO_CHANNEL) {
            edges.is("channel " + channel, x.band(channel, 0, 0), 0);
        }
        for (int band : NO_BAND) {
            edges.is("band " + band, x.band(0, band, 0), 0);
            edges.is("band " + band + " of 1", x.band(1, band, 0), 0);
        }
        x = Edges.decoded(Sounds.ofLayerOne(0));
        edges.is("one CHANNEL: 0", x.band(0, 0, 0), 1398101);
        edges.is("one CHANNEL: 1", x.band(1, 0, 0), 0);
        x = Edges.decoded(fullOne(), Sounds.ofLayerOne(0));
        edges.is("one CHANNEL behind two: 1", x.band(1, 0, 0), 0);
        edges.is("no FRAME", new SoundBench().band(0, 0, 0), 0);
        edges.is("a BAD one alone", Edges.decoded(BAD).band(0, 0, 0), 0);
        SoundBench y = Tapes.of(fullOne());
        edges.is("ahead of decode()", y.band(0, 0, 0), 0);
        y.decode();
        edges.is("behind it", y.band(0, 0, 0), 1398101);
        y.clear();
        edges.is("behind clear()", y.band(0, 0, 0), 0);
    }

    private void steps() {
        edges.of("Promise 9", "Of that FRAME: what a CHANNEL's band has for L; 0: no allocation; NONE without such.");
        SoundBench x = Edges.decoded(fullOne());
        for (int channel = 0; channel < 2; channel++) {
            edges.is("steps(" + channel + ", 0)", x.steps(channel, 0), 3);
            edges.is("steps(" + channel + ", 31)", x.steps(channel, 31), 3);
            for (int band : NO_BAND) {
                edges.is("steps(" + channel + ", " + band + ")", x.steps(channel, band), -1);
            }
        }
        for (int channel : NO_CHANNEL) {
            edges.is("steps(" + channel + ", 0)", x.steps(channel, 0), -1);
        }
        // The least and the greatest L, and none; one CHANNEL.
        x = Edges.decoded(new FrameWriter(1, 14, 1, 3).put(1, 4).put(0, 4, 30).put(14, 4).bytes());
        edges.is("the least of Layer I", x.steps(0, 0), 3);
        edges.is("no allocation", x.steps(0, 30), 0);
        edges.is("the greatest of Layer I", x.steps(0, 31), 32767);
        edges.is("CHANNEL 1 of one", x.steps(1, 0), -1);
        x = Edges.decoded(fullOne(), fullTwo());
        edges.is("band 29 of 30", x.steps(1, 29), 3);
        edges.is("band 30 of 30", x.steps(1, 30), 0);
        edges.is("band 31 of 30", x.steps(1, 31), 0);
        edges.is("band 32 of 30", x.steps(1, 32), -1);
        // Of FRAMES before it nothing is left in the bands that are not told.
        byte[] eight = new FrameWriter(2, 6, 1, 0).put(1, 4).bytes();
        x = Edges.decoded(fullOne(), fullOne(), eight);
        for (int band = 0; band < 32; band++) {
            edges.is("8 bands behind 32: steps(0, " + band + ")", x.steps(0, band), band == 0 ? 3 : 0);
            edges.is("8 bands behind 32: steps(1, " + band + ")", x.steps(1, band), 0);
            edges.is("8 bands behind 32: factor(1, " + band + ")", x.factor(1, band, 0), -1);
            edges.is("8 bands behind 32: band(1, " + band + ")", x.band(1, band, 0), 0);
        }
        x = Edges.decoded(fullOne(), Sounds.ofLayerOne(0));
        edges.is("one CHANNEL behind two: 1", x.steps(1, 0), -1);
        edges.is("one CHANNEL behind two: band 1", x.steps(0, 1), 0);
        x = Edges.decoded(fullOne(), BAD, WRONG);
        edges.is("behind a BAD one and a wrong one", x.steps(1, 31), 3);
        edges.is("no FRAME", new SoundBench().steps(0, 0), -1);
        edges.is("a BAD one alone", Edges.decoded(BAD).steps(0, 0), -1);
        edges.is("a wrong one alone", Edges.decoded(WRONG).steps(0, 0), -1);
        x.clear();
        edges.is("behind clear()", x.steps(0, 0), -1);
    }

    private void factors() {
        edges.of("Promise 10", "Of that FRAME: a factor of a CHANNEL's band for a third (0, 1, 2; of Layer I all the same); NONE without "
                + "allocation, or without such.");
        SoundBench x = Edges.decoded(fullOne());
        SoundBench y = Edges.decoded(fullTwo());
        for (int channel = 0; channel < 2; channel++) {
            for (int third = 0; third < 3; third++) {
                edges.is("Layer I, band 0, third " + third, x.factor(channel, 0, third), 31 * channel);
                edges.is("Layer I, band 31, third " + third, x.factor(channel, 31, third), 31 + 31 * channel);
                edges.is("Layer II, band 0, third " + third, y.factor(channel, 0, third), 3 + 3 * third);
                edges.is("Layer II, band 29, third " + third, y.factor(channel, 29, third), 3 + 3 * third);
                edges.is("Layer II, band 30, third " + third, y.factor(channel, 30, third), -1);
            }
            for (int third : NO_THIRD) {
                edges.is("third " + third + " of Layer I", x.factor(channel, 0, third), -1);
                edges.is("third " + third + " of Layer II", y.factor(channel, 29, third), -1);
            }
            for (int band : NO_BAND) {
                edges.is("band " + band, x.factor(channel, band, 0), -1);
            }
        }
        for (int channel : NO_CHANNEL) {
            edges.is("channel " + channel, x.factor(channel, 0, 0), -1);
        }
        x = Edges.decoded(fullOne(), Sounds.ofLayerOne(0));
        edges.is("a factor of 0", x.factor(0, 0, 0), 0);
        edges.is("no allocation", x.factor(0, 1, 0), -1);
        edges.is("CHANNEL 1 of one", x.factor(1, 0, 0), -1);
        edges.is("the greatest", Edges.decoded(Sounds.ofLayerOne(62)).factor(0, 0, 2), 62);
        edges.is("a BAD factor", Edges.decoded(Sounds.ofLayerOne(63)).factor(0, 0, 0), -1);
        x = Edges.decoded(fullOne(), BAD, WRONG);
        edges.is("behind a BAD one and a wrong one", x.factor(1, 31, 2), 62);
        edges.is("no FRAME", new SoundBench().factor(0, 0, 0), -1);
        x.clear();
        edges.is("behind clear()", x.factor(0, 0, 0), -1);
    }

    private void pcm() {
        edges.of("Promise 11", "PCM sample i of a CHANNEL (0, 1), from the first FRAME on; 0 without it.");
        byte[] both = new FrameWriter(1, 2, 1, 0).put(1, 4, 2).put(0, 4, 62).put(0, 6, 2).put(2, 2, 24).bytes();
        SoundBench x = Edges.decoded(both);
        for (int channel = 0; channel < 2; channel++) {
            edges.is("pcm(" + channel + ", 0)", x.pcm(channel, 0), 0);
            edges.is("pcm(" + channel + ", 23)", x.pcm(channel, 23), 2);
            edges.is("pcm(" + channel + ", 383)", x.pcm(channel, 383), 32767);
            for (int i : new int[] {LEAST, -1, 384, 385, GREATEST}) {
                edges.is("pcm(" + channel + ", " + i + ")", x.pcm(channel, i), 0);
            }
        }
        for (int channel : NO_CHANNEL) {
            edges.is("pcm(" + channel + ", 383)", x.pcm(channel, 383), 0);
        }
        // The next FRAMES come behind it; those that are not DECODED have none.
        Tapes.append(x, Tapes.join(BAD, Sounds.ofLayerOne(0), WRONG));
        x.decode();
        edges.is("the first FRAME's", x.pcm(0, 23), 2);
        edges.is("the second's first", x.pcm(0, 384), 32767);
        edges.is("the second's last", x.pcm(0, 767), 32767);
        edges.is("one behind it", x.pcm(0, 768), 0);
        edges.is("CHANNEL 1 has the first FRAME's alone", x.pcm(1, 383), 32767);
        edges.is("CHANNEL 1, one behind it", x.pcm(1, 384), 0);
        x.clear();
        edges.is("behind clear()", x.pcm(0, 383), 0);
        edges.is("one CHANNEL: 1", Edges.decoded(Sounds.ofLayerOne(0)).pcm(1, 383), 0);
        edges.is("no FRAME", new SoundBench().pcm(0, 0), 0);
    }

    /** 2304 PCM samples, 32767 each from 240 on. */
    private static SoundBench loud() {
        byte[] frame = Sounds.ofLayerOne(0);
        return Edges.decoded(frame, frame, frame, frame, frame, frame);
    }

    private void sums() {
        edges.of("Promise 12", "The sum of PCM samples i to j - 1 of a CHANNEL, each times its place less i and 1 (as an int, going round);");
        SoundBench x = loud();
        edges.is("one sample", x.sum(0, 300, 301), 32767);
        edges.is("two", x.sum(0, 300, 302), 3 * 32767);
        edges.is("the first of all", x.sum(0, 0, 24), sumByHand(x, 0, 24));
        // 32767 times 361 * 362 / 2 is the last below 2147483647, of 362 it is beyond, of 512 it is once around and more.
        edges.is("361", x.sum(0, 300, 661), 32767 * 65341);
        edges.is("362", x.sum(0, 300, 662), (int) (32767L * 65703));
        edges.holds("362 goes round", x.sum(0, 300, 662) < 0);
        edges.is("512", x.sum(0, 300, 812), (int) (32767L * 131328));
        edges.is("2000", x.sum(0, 300, 2300), (int) (32767L * 2001000));
        byte[] second = new FrameWriter(1, 2, 1, 0).put(0, 4).put(1, 4).put(0, 4, 62).put(0, 6).put(2, 2, 12).bytes();
        SoundBench apart = Edges.decoded(second);
        edges.is("two of CHANNEL 1", apart.sum(1, 300, 302), 3 * 32767);
        edges.is("two of a silent CHANNEL 0", apart.sum(0, 300, 302), 0);
        // Below 0 it goes round as well.
        byte[] low = new FrameWriter(1, 1, 1, 3).put(1, 4).put(0, 4, 31).put(0, 6).put(0, 2, 12).bytes();
        SoundBench y = Edges.decoded(low, low, low);
        edges.is("361 of -32768", y.sum(0, 300, 661), -32768 * 65341);
        edges.is("362 of -32768", y.sum(0, 300, 662), (int) (-32768L * 65703));
        edges.holds("362 of -32768 go round", y.sum(0, 300, 662) > 0);
    }

    private static int sumByHand(SoundBench x, int i, int j) {
        int sum = 0;
        for (int at = i; at < j; at++) {
            sum += x.pcm(0, at) * (at - i + 1);
        }
        return sum;
    }

    private void sumsOfWhatIsNotThere() {
        edges.of("Promise 12", "those that are not there are 0.");
        SoundBench x = loud();
        edges.is("up to the last", x.sum(0, 2302, 2304), 3 * 32767);
        edges.is("and one that isn't there", x.sum(0, 2302, 2305), 3 * 32767);
        edges.is("the last", x.sum(0, 2303, 2304), 32767);
        edges.is("the last and 1999 that aren't there", x.sum(0, 2303, 4303), 32767);
        edges.is("the first that isn't there", x.sum(0, 2304, 2305), 0);
        edges.is("2000 of them", x.sum(0, 2304, 4304), 0);
        edges.is("far behind", x.sum(0, GREATEST - 2000, GREATEST), 0);
        edges.is("at the end of the ints", x.sum(0, GREATEST, GREATEST), 0);
        edges.is("none at all", x.sum(0, 300, 300), 0);
        edges.is("fewer than none", x.sum(0, 300, 299), 0);
        edges.is("far fewer", x.sum(0, 300, LEAST), 0);
        edges.is("CHANNEL 1 has none", x.sum(1, 300, 400), 0);
        for (int channel : NO_CHANNEL) {
            edges.is("channel " + channel, x.sum(channel, 300, 400), 0);
        }
        edges.is("no FRAME", new SoundBench().sum(0, 0, 2000), 0);
        x.clear();
        edges.is("behind clear()", x.sum(0, 300, 400), 0);
    }

    private void sumsRefused() {
        edges.of("Promise 12", "(i 0 and more, j at most i and 2000; else 0.)");
        SoundBench x = loud();
        edges.holds("i 0", x.sum(0, 0, 2000) != 0);
        edges.is("i -1", x.sum(0, -1, 1999), 0);
        edges.is("i -1, few", x.sum(0, -1, 300), 0);
        edges.is("i far below", x.sum(0, LEAST, 300), 0);
        edges.is("both far below", x.sum(0, LEAST, LEAST + 2000), 0);
        edges.is("j at i and 1999", x.sum(0, 300, 2299), (int) (32767L * 1999000));
        edges.is("j at i and 2000", x.sum(0, 300, 2300), (int) (32767L * 2001000));
        edges.is("j at i and 2001", x.sum(0, 300, 2301), 0);
        edges.is("0 to 2001", x.sum(0, 0, 2001), 0);
        edges.is("j far above", x.sum(0, 300, GREATEST), 0);
        edges.is("i and j at the ends", x.sum(0, LEAST, GREATEST), 0);
        // i and 2000 beyond the ints is no smaller for that.
        edges.is("i at the end", x.sum(0, GREATEST - 1, GREATEST), 0);
        edges.is("i at the end, j below 0", x.sum(0, GREATEST, LEAST), 0);
    }

    private void memory() {
        edges.of("Promise 13", "v(i) of a CHANNEL; 0 without.");
        // Two FRAMES: all 1024 numbers have been reached; v(i) and v(i + 64) are alike.
        byte[] both = new FrameWriter(1, 2, 1, 0).put(1, 4, 2).put(0, 4, 62).put(0, 6, 2).put(2, 2, 24).bytes();
        SoundBench x = Edges.decoded(both, both);
        for (int channel = 0; channel < 2; channel++) {
            edges.is("memory(" + channel + ", 0)", x.memory(channel, 0), 988586);
            edges.is("memory(" + channel + ", 960)", x.memory(channel, 960), 988586);
            edges.is("memory(" + channel + ", 63)", x.memory(channel, 63), -1035946);
            edges.is("memory(" + channel + ", 1023)", x.memory(channel, 1023), -1035946);
            for (int i : new int[] {LEAST, -64, -1, 1024, 1025, 1088, GREATEST}) {
                edges.is("memory(" + channel + ", " + i + ")", x.memory(channel, i), 0);
            }
        }
        for (int channel : NO_CHANNEL) {
            edges.is("memory(" + channel + ", 0)", x.memory(channel, 0), 0);
        }
        edges.is("one CHANNEL: 1", Edges.decoded(Sounds.ofLayerOne(0)).memory(1, 0), 0);
        edges.is("no FRAME", new SoundBench().memory(0, 0), 0);
        x.clear();
        edges.is("behind clear()", x.memory(0, 1023), 0);
    }

    private void counts() {
        edges.of("Promise 14", "What 0: bytes of the TAPE, 1: decode()'s place, 2: FRAMES, 3: DECODED ones, 4, 5: PCM samples of CHANNEL 0, 1. "
                + "NONE for others.");
        SoundBench x = new SoundBench();
        sixCounts("new", x, 0, 0, 0, 0, 0, 0);
        byte[] both = new FrameWriter(1, 2, 1, 0).bytes();
        Tapes.append(x, Tapes.join(both, BAD, Sounds.ofLayerOne(0), WRONG, new byte[5]));
        sixCounts("fed", x, 165, 0, 0, 0, 0, 0);
        x.decode();
        sixCounts("decoded", x, 165, 162, 4, 2, 768, 384);
        for (int what : new int[] {LEAST, -2, -1, 6, 7, GREATEST}) {
            edges.is("count(" + what + ")", x.count(what), -1);
        }
        x.clear();
        sixCounts("cleared", x, 0, 0, 0, 0, 0, 0);
    }

    private void sixCounts(String when, SoundBench x, int... want) {
        for (int what = 0; what < 6; what++) {
            edges.is(when + ": count(" + what + ")", x.count(what), want[what]);
        }
    }
}
