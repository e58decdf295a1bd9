/** Boundaries of the TAPE, of decode()'s place and of an object's calls: promises 1 to 6. */
final class TapeEdges {
    private static final int LEAST = Integer.MIN_VALUE;
    private static final int GREATEST = Integer.MAX_VALUE;
    private static final byte[] SILENT = new FrameWriter(1, 1, 1, 3).bytes();
    private static final byte[] BAD = new FrameWriter(1, 1, 1, 3).put(15, 4).bytes();
    private static final byte[] WRONG = new FrameWriter(1, 1, 1, 3).checked(1).put(0, 4, 32).coveredHere().bytes();

    private final Edges edges;

    TapeEdges(Edges edges) {
        this.edges = edges;
    }

    void ask() {
        callsOfAnObject();
        fullTape();
        newObject();
        feedComes();
        feedRefused();
        endCuts();
        endRefused();
        setChanges();
        setRefused();
        clearEmpties();
        decodeAtMostForty();
    }

    private static byte[][] many(byte[] frame, int times) {
        byte[][] all = new byte[times][];
        java.util.Arrays.fill(all, frame);
        return all;
    }

    private void counts(String when, SoundBench x, int... want) {
        for (int what = 0; what < want.length; what++) {
            edges.is(when + ": count(" + what + ")", x.count(what), want[what]);
        }
    }

    private void callsOfAnObject() {
        edges.namesNone("What it is", "A decoder of MPEG-1 Audio, Layers I and II (after ISO/IEC 11172-3), in whole numbers alone: "
                + "frames found and checked in a stream of bytes, allocations, scale factors, samples of 32 bands, and their "
                + "synthesis to PCM by one stated order of sums.");
        edges.of("What it is", "An object is used for at most 512 calls after it has been made; what later calls answer is free.");
        SoundBench x = new SoundBench();
        byte[] loud = Tapes.join(many(Sounds.ofLayerOne(0), 125));
        int calls = 0;
        for (int i = 0; i < loud.length; i += 20) {
            x.feed(Tapes.word(loud, i), Tapes.word(loud, i + 4), Tapes.word(loud, i + 8), Tapes.word(loud, i + 12),
                    Tapes.word(loud, i + 16));
            calls++;
        }
        for (int times = 0; times < 4; times++) {
            x.decode();
            calls++;
        }
        while (calls < 508) {
            edges.is("call " + ++calls, x.sum(0, 40000, 40002), 3 * 32767);
        }
        edges.is("call 509", x.count(4), 48000);
        edges.is("call 510", x.frame(124, 1), 3968);
        edges.is("call 511", x.memory(0, 48), -1398101);
        edges.is("call 512", x.pcm(0, 47999), 32767);
        // Free are the answers, but the call still ends and throws nothing.
        x.feed(0, 0, 0, 0, 0);
        x.clear();
        for (int later = 0; later < 300; later++) {
            x.feed(-1, 0, 0, 0, 0);
            x.decode();
            x.sum(0, 0, 2000);
        }
    }

    private void fullTape() {
        edges.of("Term I", "STREAM: bytes, 4000 at most (the TAPE).");
        SoundBench x = Tapes.of(Tapes.zeros(3968), SILENT);
        counts("full", x, 4000, 0);
        edges.is("the last byte", x.set(3999, 0), 0);
        edges.is("one behind it", x.set(4000, 0), -1);
        edges.is("end(4000)", x.end(4000), 4000);
        edges.is("end(4001)", x.end(4001), -1);
        edges.is("a FRAME up to the last byte", x.decode(), 1);
        edges.is("its first byte", x.frame(0, 1), 3968);
        counts("all passed", x, 4000, 4000, 1, 1);
        edges.is("feed behind it", x.feed(0, 0, 0, 0, 0), -1);
        edges.is("decode()", x.decode(), 0);
        x = Tapes.of(Tapes.zeros(3969), java.util.Arrays.copyOf(SILENT, 31));
        edges.is("a FRAME that would go one beyond", x.decode(), 0);
        counts("it never comes whole", x, 4000, 3969, 0, 0);
        edges.of("Term I", "Bits of bytes from the highest on.");
        for (int bit = 0; bit < 8; bit++) {
            byte[] bytes = SILENT.clone();
            bytes[4] = (byte) (128 >> bit);
            SoundBench y = Edges.decoded(bytes);
            // A lone bit of four is an allocation of 8, 4, 2 or 1; nine bits are too many for the FRAME.
            edges.is("bit " + bit + ": OUTCOME", y.frame(0, 0), bit % 4 == 0 ? 2 : 0);
            edges.is("bit " + bit + ": steps", y.steps(0, bit / 4), bit % 4 == 0 ? -1 : new int[] {0, 31, 7, 3}[bit % 4]);
        }
    }

    private void newObject() {
        edges.of("Promise 1", "An empty TAPE; nothing was sounded.");
        SoundBench x = new SoundBench();
        counts("new", x, 0, 0, 0, 0, 0, 0);
        edges.is("set(0, 1)", x.set(0, 1), -1);
        edges.is("end(0)", x.end(0), 0);
        edges.is("end(1)", x.end(1), -1);
        edges.is("frame(0, 0)", x.frame(0, 0), -1);
        edges.is("decode()", x.decode(), 0);
        edges.is("clear()", x.clear(), 0);
        for (int channel = 0; channel < 2; channel++) {
            edges.is("band", x.band(channel, 0, 0), 0);
            edges.is("steps", x.steps(channel, 0), -1);
            edges.is("factor", x.factor(channel, 0, 0), -1);
            edges.is("pcm", x.pcm(channel, 0), 0);
            edges.is("sum", x.sum(channel, 0, 2000), 0);
            for (int i = 0; i < 1024; i += 11) {
                edges.is("memory(" + channel + ", " + i + ")", x.memory(channel, i), 0);
            }
        }
        counts("asked", x, 0, 0, 0, 0, 0, 0);
        edges.is("another object is its own", new SoundBench().feed(1, 2, 3, 4, 5), 20);
        edges.is("and this one's TAPE is still empty", x.count(0), 0);
        edges.of("The constants", "The constants: `NONE = -1`: None.");
        edges.is("NONE", SoundBench.NONE, -1);
    }

    private void feedComes() {
        edges.of("Promise 2", "Twenty bytes come behind the TAPE, of each number the highest first: how many it has;");
        SoundBench x = new SoundBench();
        edges.is("behind an empty TAPE", x.feed(LEAST, GREATEST, -1, 0, 1), 20);
        int[] want = {128, 0, 0, 0, 127, 255, 255, 255, 255, 255, 255, 255, 0, 0, 0, 0, 0, 0, 0, 1};
        for (int i = 0; i < 20; i++) {
            edges.is("byte " + i, x.set(i, 0), want[i]);
        }
        edges.is("no byte 20", x.set(20, 0), -1);
        x.end(1);
        edges.is("behind one byte", x.feed(0x01020304, 0x05060708, 0x090A0B0C, 0x0D0E0F10, 0x111213FE), 21);
        edges.is("byte 0 is as it was", x.set(0, 0), 0);
        for (int i = 1; i < 20; i++) {
            edges.is("byte " + i, x.set(i, 0), i);
        }
        edges.is("byte 20", x.set(20, 0), 0xFE);
        edges.is("no byte 21", x.set(21, 0), -1);
        edges.is("once more", x.feed(0, 0, 0, 0, 0), 41);
        edges.is("decode()'s place stays", x.count(1), 0);
    }

    private void feedRefused() {
        edges.of("Promise 2", "NONE, and none comes, if it would have more than 4000.");
        for (int had = 3980; had <= 4000; had++) {
            SoundBench x = Tapes.of(Tapes.zeros(had));
            edges.is("feed behind " + had, x.feed(-1, -1, -1, -1, -1), had == 3980 ? 4000 : -1);
            edges.is("bytes", x.count(0), had == 3980 ? 4000 : had);
            edges.is("the byte ahead", x.set(had - 1, 0), 0);
            edges.is("the byte behind", x.set(had, 0), had == 3980 ? 255 : -1);
            edges.is("the last one", x.set(3999, 0), had == 3980 ? 255 : had == 4000 ? 0 : -1);
            edges.is("end(3980)", x.end(3980), 3980);
            edges.is("then there is room", x.feed(0x7F000000, 0, 0, 0, 0x80), 4000);
            edges.is("the first that came", x.set(3980, 0), 0x7F);
            edges.is("the last that came", x.set(3999, 0), 0x80);
        }
    }

    private void endCuts() {
        edges.of("Promise 3", "The TAPE has its first n bytes alone: n;");
        SoundBench x = Tapes.of(SILENT);
        x.set(31, 9);
        edges.is("end at all of it", x.end(32), 32);
        edges.is("its last byte is still there", x.set(31, 7), 9);
        edges.is("end at one fewer", x.end(31), 31);
        edges.is("bytes", x.count(0), 31);
        edges.is("the byte behind is gone", x.set(31, 0), -1);
        edges.is("the FRAME is not whole now", x.decode(), 0);
        edges.is("end at nothing", x.end(0), 0);
        edges.is("bytes of nothing", x.count(0), 0);
        edges.is("no byte 0", x.set(0, 0), -1);
        edges.is("decode() of nothing", x.decode(), 0);
        edges.is("what comes then is all there is", x.feed(0x05000000, 0, 0, 0, 0x06), 20);
        edges.is("byte 0", x.set(0, 0), 5);
        edges.is("byte 19", x.set(19, 0), 6);
        edges.is("byte 20", x.set(20, 0), -1);
        // Behind the end there is no HEADER, though its bytes were on the TAPE once.
        x = Tapes.of(Tapes.zeros(36), SILENT);
        x.end(39);
        edges.is("three of a HEADER's bytes", x.decode(), 0);
        edges.is("the place is at them", x.count(1), 36);
        edges.is("another fourth byte comes", x.feed(0x02000000, 0, 0, 0, 0), 59);
        edges.is("which is no HEADER", x.decode(), 0);
        edges.is("the place goes on", x.count(1), 56);
    }

    private void endRefused() {
        edges.of("Promise 3", "NONE, and nothing happens, if it has not so many, or n is below decode()'s place.");
        SoundBench x = Tapes.of(SILENT, new byte[] {1, 2, 3, 4, 5});
        x.decode();
        counts("the place is three ahead of the end", x, 37, 34, 1, 1, 384, 0);
        for (int n : new int[] {38, 39, 4000, 4001, GREATEST, 33, 32, 1, 0, -1, LEAST}) {
            edges.is("end(" + n + ")", x.end(n), -1);
            edges.is("bytes", x.count(0), 37);
        }
        edges.is("the last byte is as it was", x.set(36, 5), 5);
        edges.is("end at all", x.end(37), 37);
        edges.is("end one above the place", x.end(35), 35);
        edges.is("end behind that", x.end(36), -1);
        edges.is("end at the place", x.end(34), 34);
        edges.is("end below the place", x.end(33), -1);
        counts("the place is at the end", x, 34, 34, 1, 1, 384, 0);
        SoundBench empty = new SoundBench();
        edges.is("an empty TAPE: end(-1)", empty.end(-1), -1);
        edges.is("an empty TAPE: end(1)", empty.end(1), -1);
        edges.is("an empty TAPE: end(0)", empty.end(0), 0);
    }

    private void setChanges() {
        edges.of("Promise 4", "Byte i of the TAPE becomes b (its lowest 8 bits): what it was;");
        SoundBench x = Tapes.of(Tapes.zeros(20));
        int was = 0;
        for (int b : new int[] {1, 127, 128, 255, 256, 257, -1, -128, -129, -256, LEAST, GREATEST, 0}) {
            edges.is("set(0, " + b + ")", x.set(0, b), was);
            was = b & 255;
        }
        edges.is("byte 0 at last", x.set(0, 0), 0);
        edges.is("byte 1 is as it was", x.set(1, 0), 0);
        edges.is("byte 19", x.set(19, 511), 0);
        edges.is("byte 19 again", x.set(19, 0), 255);
        edges.is("byte 18 is as it was", x.set(18, 0), 0);
        x = Tapes.of(SILENT);
        edges.is("a HEADER goes", x.set(1, 0xEF), 0xFF);
        edges.is("no FRAME", x.decode(), 0);
        x = Tapes.of(SILENT);
        x.set(1, 0xEF);
        edges.is("a HEADER goes and comes", x.set(1, -1), 0xEF);
        edges.is("a FRAME", x.decode(), 1);
    }

    private void setRefused() {
        edges.of("Promise 4", "NONE, and nothing happens, without it, or if i is below decode()'s place.");
        SoundBench x = Tapes.of(SILENT, new byte[] {1, 2, 3, 4, 5});
        x.decode();
        for (int i : new int[] {33, 32, 31, 0, -1, LEAST, 37, 38, 3999, 4000, GREATEST}) {
            edges.is("set(" + i + ", 77)", x.set(i, 77), -1);
        }
        counts("nothing happened", x, 37, 34, 1, 1, 384, 0);
        edges.is("at the place", x.set(34, 0), 3);
        edges.is("above the place", x.set(35, 0), 4);
        edges.is("the last byte", x.set(36, 0), 5);
        edges.is("none came behind it", x.feed(0, 0, 0, 0, 0), 57);
        edges.is("what came behind it", x.set(37, 0), 0);
        SoundBench y = Tapes.of(SILENT);
        y.decode();
        edges.is("the place is at the end: the last byte", y.set(31, 1), -1);
        edges.is("the place is at the end: the place", y.set(32, 1), -1);
        // Stopped at a HEADER: its own first byte is not below the place.
        y = Tapes.of(new byte[] {9}, java.util.Arrays.copyOf(SILENT, 31));
        y.decode();
        edges.is("ahead of the HEADER", y.set(0, 0), -1);
        edges.is("the HEADER's first byte", y.set(1, 0), 255);
        edges.is("no HEADER now", y.decode() * 100 + y.count(1), 29);
    }

    private void clearEmpties() {
        edges.of("Promise 5", "The TAPE becomes empty, decode()'s place 0; all v 0; FRAMES and PCM are none: how many FRAMES there were.");
        SoundBench x = new SoundBench();
        edges.is("of a new object", x.clear(), 0);
        byte[] both = new FrameWriter(1, 2, 1, 0).put(1, 4, 2).put(0, 4, 62).put(0, 6, 2).put(2, 2, 24).bytes();
        Tapes.append(x, Tapes.join(both, BAD, WRONG, Tapes.zeros(3872)));
        edges.is("three FRAMES of all OUTCOMES", x.decode(), 3);
        counts("ahead of it", x, 4000, 3997, 3, 1, 384, 384);
        edges.holds("v of both", x.memory(0, 767) != 0 && x.memory(1, 767) != 0);
        edges.is("clear()", x.clear(), 3);
        counts("behind it", x, 0, 0, 0, 0, 0, 0);
        for (int channel = 0; channel < 2; channel++) {
            for (int i = 0; i < 768; i += 13) {
                edges.is("memory(" + channel + ", " + i + ")", x.memory(channel, i), 0);
            }
            edges.is("pcm", x.pcm(channel, 383), 0);
            edges.is("sum", x.sum(channel, 0, 384), 0);
            edges.is("band", x.band(channel, 0, 0), 0);
            edges.is("steps", x.steps(channel, 0), -1);
            edges.is("factor", x.factor(channel, 0, 0), -1);
        }
        edges.is("frame(0, 0)", x.frame(0, 0), -1);
        edges.is("set(0, 1)", x.set(0, 1), -1);
        edges.is("end(0)", x.end(0), 0);
        edges.is("end(1)", x.end(1), -1);
        edges.is("clear() again", x.clear(), 0);
        // The same FRAMES again are as on a new object.
        Tapes.append(x, both);
        edges.is("decode()", x.decode(), 1);
        edges.is("FRAME 0", x.frame(0, 1), 0);
        edges.is("PCM anew", x.sum(1, 0, 384), Edges.decoded(both).sum(1, 0, 384));
        edges.is("v anew goes no further than its rows", x.memory(1, 768), 0);
        edges.is("one FRAME", x.clear(), 1);
        // Of a longer run nothing is left behind the end of a shorter one.
        Tapes.append(x, Tapes.join(both, both));
        x.decode();
        edges.is("PCM of two FRAMES", x.pcm(0, 384) + x.pcm(1, 384), 2 * 32767);
        edges.is("two FRAMES", x.clear(), 2);
        Tapes.append(x, both);
        x.decode();
        edges.is("the last PCM of one FRAME", x.pcm(0, 383) + x.pcm(1, 383), 2 * 32767);
        edges.is("none behind it", x.pcm(0, 384), 0);
        edges.is("none behind it of CHANNEL 1", x.pcm(1, 384), 0);
        edges.is("no FRAME behind it", x.frame(1, 0), -1);
        SoundBench y = Tapes.of(Tapes.zeros(4000));
        edges.is("a full TAPE without a FRAME", y.clear(), 0);
        edges.is("has room again", y.feed(0, 0, 0, 0, 0), 20);
    }

    private void decodeAtMostForty() {
        edges.of("Promise 6", "FRAMES, as II tells, up to where it stops, but at most 40 of them: how many.");
        for (int there : new int[] {0, 1, 39, 40, 41, 80, 81}) {
            SoundBench x = Tapes.of(many(SILENT, there));
            int passed = 0;
            for (int left = there; left > 0; left -= 40) {
                int want = Math.min(left, 40);
                edges.is(there + " FRAMES, " + left + " left: decode()", x.decode(), want);
                passed += want;
                counts(there + " FRAMES", x, 32 * there, 32 * passed, passed, passed, 384 * passed, 0);
            }
            edges.is(there + " FRAMES, none left", x.decode(), 0);
            edges.is(there + " FRAMES, all there are", x.clear(), there);
        }
        // FRAMES that are not DECODED are FRAMES too.
        SoundBench x = Tapes.of(Tapes.join(many(BAD, 20)), Tapes.join(many(WRONG, 20)), BAD);
        edges.is("forty of no use", x.decode(), 40);
        counts("forty of no use", x, 41 * 32, 1280, 40, 0, 0, 0);
        edges.is("the last", x.decode(), 1);
        edges.is("its OUTCOME", x.frame(40, 0), 2);
        // Behind the fortieth it goes no further, not even to where it would stop.
        for (int gap : new int[] {0, 3, 4, 9}) {
            x = Tapes.of(Tapes.join(many(SILENT, 40)), Tapes.zeros(gap));
            edges.is("forty and " + gap + " bytes", x.decode(), 40);
            edges.is("place", x.count(1), 1280);
            edges.is("no more", x.decode(), 0);
            edges.is("place then", x.count(1), 1280 + Math.max(0, gap - 3));
            x = Tapes.of(Tapes.join(many(SILENT, 39)), Tapes.zeros(gap));
            edges.is("thirty-nine and " + gap + " bytes", x.decode(), 39);
            edges.is("place at once", x.count(1), 1248 + Math.max(0, gap - 3));
        }
    }
}
