/** Promises 1 to 6 and 14: the TAPE, decode()'s place, and what is counted. */
public final class TapeTest {
    private static final Due DUE = new Due("TapeTest");
    private static final byte[] SILENT = new FrameWriter(1, 1, 1, 3).bytes();

    public static void main(String[] args) {
        newObject();
        feedFillsTheTape();
        feedOrdersBytes();
        endCuts();
        setChangesBytes();
        clearEmpties();
        clearForgetsSound();
        decodeStopsAtTail();
        decodeStopsAtPartOfFrame();
        decodePassesFortyAtMost();
        DUE.close();
    }

    private static void counts(String when, SoundBench x, int... want) {
        for (int what = 0; what < want.length; what++) {
            DUE.is(when + ": count(" + what + ")", x.count(what), want[what]);
        }
        DUE.is(when + ": count(-1)", x.count(-1), -1);
        DUE.is(when + ": count(6)", x.count(6), -1);
    }

    private static void newObject() {
        SoundBench x = new SoundBench();
        counts("new", x, 0, 0, 0, 0, 0, 0);
        DUE.is("new: frame", x.frame(0, 0), -1);
        DUE.is("new: band", x.band(0, 0, 0), 0);
        DUE.is("new: steps", x.steps(0, 0), -1);
        DUE.is("new: factor", x.factor(0, 0, 0), -1);
        DUE.is("new: pcm", x.pcm(0, 0), 0);
        DUE.is("new: sum", x.sum(0, 0, 2000), 0);
        DUE.is("new: memory", x.memory(0, 0), 0);
        DUE.is("new: end(0)", x.end(0), 0);
        DUE.is("new: end(1)", x.end(1), -1);
        DUE.is("new: set", x.set(0, 1), -1);
        DUE.is("new: decode", x.decode(), 0);
        DUE.is("new: clear", x.clear(), 0);
        counts("new, behind all that", x, 0, 0, 0, 0, 0, 0);
    }

    private static void feedFillsTheTape() {
        SoundBench x = new SoundBench();
        for (int n = 20; n <= 4000; n += 20) {
            DUE.is("feed to " + n, x.feed(0, 0, 0, 0, 0), n);
        }
        DUE.is("feed beyond 4000", x.feed(-1, -1, -1, -1, -1), -1);
        DUE.is("count", x.count(0), 4000);
        DUE.is("the last byte is as it was", x.set(3999, 7), 0);
        DUE.is("end(3981)", x.end(3981), 3981);
        DUE.is("feed to 4001", x.feed(0, 0, 0, 0, 0), -1);
        DUE.is("count of 3981", x.count(0), 3981);
        DUE.is("end(3980)", x.end(3980), 3980);
        DUE.is("feed to 4000 once more", x.feed(0, 0, 0, 0, 0x01020304), 4000);
        DUE.is("byte 3999", x.set(3999, 0), 4);
    }

    private static void feedOrdersBytes() {
        SoundBench x = new SoundBench();
        x.feed(0, 0, 0, 0, 0);
        x.end(3);
        DUE.is("feed behind three bytes", x.feed(0x80FE0102, 0x03040506, 0x0708090A, 0x0B0C0D0E, 0x0F1011FF), 23);
        DUE.is("byte 3", x.set(3, 0), 0x80);
        DUE.is("byte 4", x.set(4, 0), 0xFE);
        for (int i = 1; i <= 17; i++) {
            DUE.is("byte " + (4 + i), x.set(4 + i, 0), i);
        }
        DUE.is("byte 22", x.set(22, 0), 255);
    }

    private static void endCuts() {
        SoundBench x = Tapes.of(SILENT, Tapes.zeros(10));
        DUE.is("end(43)", x.end(43), -1);
        DUE.is("end(-1)", x.end(-1), -1);
        DUE.is("end(42)", x.end(42), 42);
        DUE.is("decode", x.decode(), 1);
        DUE.is("place at the last three", x.count(1), 39);
        DUE.is("end(38)", x.end(38), -1);
        DUE.is("count", x.count(0), 42);
        DUE.is("end(39)", x.end(39), 39);
        DUE.is("decode again", x.decode(), 0);
        counts("place stays, with fewer behind it", x, 39, 39, 1, 1, 384, 0);
        DUE.is("end at the least int", x.end(Integer.MIN_VALUE), -1);
        DUE.is("end at the greatest int", x.end(Integer.MAX_VALUE), -1);
    }

    private static void setChangesBytes() {
        SoundBench x = Tapes.of(SILENT, Tapes.zeros(8));
        DUE.is("set(0)", x.set(0, 0x1FE), 255);
        DUE.is("no HEADER now", x.decode(), 0);
        counts("no HEADER", x, 40, 37, 0, 0, 0, 0);
        DUE.is("set below the place", x.set(36, 9), -1);
        DUE.is("set at the place", x.set(37, -1), 0);
        DUE.is("lowest eight bits", x.set(37, 256), 255);
        DUE.is("and of those", x.set(37, 0), 0);
        DUE.is("set(39)", x.set(39, 5), 0);
        DUE.is("set(40)", x.set(40, 5), -1);
        DUE.is("set(-1)", x.set(-1, 5), -1);
        DUE.is("set at the ends of the ints", x.set(Integer.MAX_VALUE, 5) + x.set(Integer.MIN_VALUE, 5), -2);
        x = Tapes.of(SILENT);
        x.set(0, 0xFE);
        DUE.is("what was 254", x.set(0, 255), 0xFE);
        DUE.is("a HEADER by set", x.decode(), 1);
    }

    private static void clearEmpties() {
        byte[] bad = new FrameWriter(1, 1, 1, 3).put(15, 4).bytes();
        SoundBench x = Tapes.of(SILENT, bad, SILENT, Tapes.zeros(9));
        DUE.is("decode", x.decode(), 3);
        counts("ahead of clear", x, 105, 102, 3, 2, 768, 0);
        DUE.is("clear", x.clear(), 3);
        counts("clear", x, 0, 0, 0, 0, 0, 0);
        DUE.is("frame", x.frame(0, 0), -1);
        DUE.is("steps", x.steps(0, 0), -1);
        DUE.is("clear again", x.clear(), 0);
        DUE.is("set", x.set(0, 0), -1);
        Tapes.append(x, Tapes.join(Tapes.zeros(1), SILENT));
        DUE.is("decode from 0 on", x.decode(), 1);
        DUE.is("FRAME 0 is the new one", x.frame(0, 1), 1);
        counts("a new beginning", x, 33, 33, 1, 1, 384, 0);
    }

    private static void clearForgetsSound() {
        byte[] loud = Sounds.ofLayerOne(0);
        SoundBench x = Tapes.of(loud);
        x.decode();
        int first = x.pcm(0, 300);
        DUE.holds("it sounds", first != 0 && x.memory(0, 0) != 0 && x.memory(0, 767) != 0);
        x.clear();
        DUE.is("pcm", x.pcm(0, 300), 0);
        DUE.is("sum", x.sum(0, 0, 384), 0);
        DUE.is("band", x.band(0, 0, 0), 0);
        DUE.is("factor", x.factor(0, 0, 0), -1);
        for (int i = 0; i < 400; i++) {
            DUE.is("memory " + i, x.memory(0, i), 0);
        }
        Tapes.append(x, loud);
        x.decode();
        DUE.is("it sounds as on a new object", x.pcm(0, 300), first);
    }

    private static void decodeStopsAtTail() {
        for (int n = 0; n <= 8; n++) {
            SoundBench x = Tapes.of(Tapes.zeros(n));
            DUE.is("decode of " + n, x.decode(), 0);
            DUE.is("place of " + n, x.count(1), Math.max(0, n - 3));
        }
        // A HEADER whose first three bytes come ahead of the fourth.
        SoundBench x = Tapes.of(Tapes.zeros(5), new byte[] {-1, -1, 0x14});
        DUE.is("three bytes of a HEADER", x.decode(), 0);
        DUE.is("place at them", x.count(1), 5);
        byte[] rest = new byte[29];
        rest[0] = (byte) 0xC0;
        Tapes.append(x, rest);
        DUE.is("then the rest", x.decode(), 1);
        DUE.is("first byte", x.frame(0, 1), 5);
        DUE.is("place behind it", x.count(1), 37);
    }

    private static void decodeStopsAtPartOfFrame() {
        SoundBench x = Tapes.of(Tapes.zeros(2), SILENT, Tapes.zeros(1), new byte[] {-1, -1, 0x14, (byte) 0xC0});
        DUE.is("one whole FRAME", x.decode(), 1);
        DUE.is("place at the other", x.count(1), 35);
        DUE.is("still there", x.decode(), 0);
        DUE.is("place stays", x.count(1), 35);
        // Another HEADER inside the part doesn't count: it stops at the first GOOD one.
        Tapes.append(x, new byte[] {-1, -1, 0x14, (byte) 0xC0});
        DUE.is("no other", x.decode(), 0);
        DUE.is("place is at the first", x.count(1), 35);
        DUE.is("the place can be set", x.set(35, 0), 255);
        DUE.is("then it goes on", x.decode(), 0);
        DUE.is("to the other HEADER", x.count(1), 39);
        Tapes.append(x, Tapes.zeros(28));
        DUE.is("which gets its bytes", x.decode(), 1);
        DUE.is("first byte", x.frame(1, 1), 39);
        DUE.is("place", x.count(1), 71);
    }

    private static void decodePassesFortyAtMost() {
        byte[][] many = new byte[125][];
        for (int k = 0; k < many.length; k++) {
            many[k] = SILENT;
        }
        SoundBench x = Tapes.of(many);
        DUE.is("forty", x.decode(), 40);
        counts("forty", x, 4000, 1280, 40, 40, 15360, 0);
        DUE.is("forty more", x.decode(), 40);
        DUE.is("and forty", x.decode(), 40);
        DUE.is("the rest", x.decode(), 5);
        counts("all", x, 4000, 4000, 125, 125, 48000, 0);
        DUE.is("none", x.decode(), 0);
        DUE.is("the last FRAME", x.frame(124, 1), 3968);
        DUE.is("without", x.frame(125, 1), -1);
        // The place is right behind the fortieth, not at the next HEADER.
        SoundBench y = Tapes.of(Tapes.join(java.util.Arrays.copyOf(many, 40)), Tapes.zeros(7), SILENT);
        DUE.is("forty with a gap behind them", y.decode(), 40);
        DUE.is("place ahead of the gap", y.count(1), 1280);
        DUE.is("one behind the gap", y.decode(), 1);
        DUE.is("its first byte", y.frame(40, 1), 1287);
    }
}
