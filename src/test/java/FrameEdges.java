import java.util.Arrays;

/** Boundaries of FRAMES on the TAPE, of the CHECK and of the BOUND: Term II. */
final class FrameEdges {
    private static final byte[] SILENT = new FrameWriter(1, 1, 1, 3).bytes();

    private final Edges edges;

    FrameEdges(Edges edges) {
        this.edges = edges;
    }

    void ask() {
        fromThePlaceOn();
        firstGoodHeader();
        notAllItsBytes();
        goesOnBehind();
        lastThreeBytes();
        checkedBits();
        checkValues();
        checkBeyondTheEnd();
        checkAheadOfBad();
        bounds();
    }

    private static byte[] bytes(int... all) {
        byte[] bytes = new byte[all.length];
        for (int i = 0; i < all.length; i++) {
            bytes[i] = (byte) all[i];
        }
        return bytes;
    }

    private void fromThePlaceOn() {
        edges.of("Term II", "FRAMES. decode() goes on from its place (0 at first):");
        SoundBench x = Tapes.of(SILENT);
        edges.is("place at first", x.count(1), 0);
        edges.is("a FRAME at byte 0", x.decode(), 1);
        edges.is("its first byte", x.frame(0, 1), 0);
        edges.is("place", x.count(1), 32);
        edges.is("the same is not found again", x.decode(), 0);
        edges.is("place stays", x.count(1), 32);
        Tapes.append(x, SILENT);
        edges.is("one at the place", x.decode(), 1);
        edges.is("its first byte", x.frame(1, 1), 32);
        // A HEADER that begins one byte ahead of the place is not found; at the place and behind it, it is.
        for (int at = 31; at <= 33; at++) {
            byte[] tape = new byte[at + 32];
            System.arraycopy(SILENT, 0, tape, 0, 4);
            System.arraycopy(SILENT, 0, tape, at, 4);
            SoundBench y = Tapes.of(tape);
            edges.is("a HEADER at " + at + ": decode()", y.decode(), at == 31 ? 1 : 2);
            edges.is("a HEADER at " + at + ": place", y.count(1), at == 31 ? 60 : at + 32);
            edges.is("a HEADER at " + at + ": first byte", y.frame(1, 1), at == 31 ? -1 : at);
        }
    }

    private void firstGoodHeader() {
        edges.of("Term II", "at the first byte from there on where a GOOD HEADER stands (four bytes):");
        for (int gap = 0; gap < 6; gap++) {
            SoundBench x = Edges.decoded(Tapes.zeros(gap), SILENT);
            edges.is("behind " + gap + " bytes", x.frame(0, 1), gap);
        }
        // Ones ahead of it: with them it would have a RATE of 15.
        edges.is("behind a byte of ones", Edges.decoded(bytes(255), SILENT).frame(0, 1), 1);
        edges.is("behind two bytes of ones", Edges.decoded(bytes(255, 255), SILENT).frame(0, 1), 2);
        // HEADERS at 0 and at 3, both GOOD: the first it is.
        SoundBench x = Tapes.of(bytes(255, 255, 0x14, 255, 255, 0x14, 0xC0), Tapes.zeros(28));
        edges.is("two that overlap: decode()", x.decode(), 1);
        edges.is("two that overlap: first byte", x.frame(0, 1), 0);
        edges.is("two that overlap: place", x.count(1), 32);
        // Three bytes are no HEADER yet; the fourth makes it GOOD or not.
        x = Tapes.of(bytes(0, 0, 255, 255, 0x14));
        edges.is("three bytes: decode()", x.decode(), 0);
        edges.is("three bytes: place", x.count(1), 2);
        Tapes.append(x, bytes(0xC2));
        edges.is("EMPHASIS 2: decode()", x.decode(), 0);
        edges.is("EMPHASIS 2: place", x.count(1), 3);
        x = Tapes.of(bytes(0, 0, 255, 255, 0x14));
        x.decode();
        Tapes.append(x, bytes(0xC0));
        edges.is("four bytes: decode()", x.decode(), 0);
        edges.is("four bytes: place", x.count(1), 2);
        Tapes.append(x, Tapes.zeros(28));
        edges.is("all bytes: decode()", x.decode(), 1);
    }

    private void notAllItsBytes() {
        edges.of("Term II", "if its FRAME isn't there with all its bytes: it stops at that byte.");
        SoundBench x = Tapes.of(Tapes.zeros(7), Arrays.copyOf(SILENT, 4));
        for (int there = 4; there < 32; there++) {
            edges.is(there + " bytes: decode()", x.decode(), 0);
            edges.is(there + " bytes: place", x.count(1), 7);
            edges.is(there + " bytes: FRAMES", x.count(2), 0);
            Tapes.append(x, Tapes.zeros(1));
        }
        edges.is("all bytes: decode()", x.decode(), 1);
        edges.is("all bytes: place", x.count(1), 39);
        byte[] longest = new FrameWriter(2, 14, 2, 0).padded().bytes();
        x = Tapes.of(Arrays.copyOf(longest, 1728));
        edges.is("the longest less a byte", x.decode(), 0);
        Tapes.append(x, Tapes.zeros(1));
        edges.is("the longest", x.decode(), 1);
        // A whole FRAME behind the HEADER of one that is not whole: it stops all the same.
        byte[] large = new FrameWriter(1, 14, 1, 3).bytes();
        System.arraycopy(SILENT, 0, large, 100, 32);
        x = Tapes.of(Arrays.copyOf(large, 447));
        edges.is("a FRAME in a part of one", x.decode(), 0);
        edges.is("place ahead of both", x.count(1), 0);
        x.set(0, 0);
        edges.is("without the outer HEADER", x.decode(), 1);
        edges.is("the inner", x.frame(0, 1), 100);
        x = Tapes.of(large);
        edges.is("the outer is whole", x.decode(), 1);
        edges.is("the outer", x.frame(0, 1), 0);
        edges.is("place behind both", x.count(1), 448);
    }

    private void goesOnBehind() {
        edges.of("Term II", "Else the FRAME has an OUTCOME, and it goes on behind it: 0 DECODED; 1 its CHECK is wrong; 2 BAD (by III, IV).");
        byte[] wrong = new FrameWriter(1, 1, 1, 3).checked(1).put(0, 4, 32).coveredHere().bytes();
        byte[] bad = new FrameWriter(2, 1, 1, 3).put(1, 4).put(0, 22).put(2, 2).put(63, 6).bytes();
        SoundBench x = Tapes.of(wrong, bad, SILENT, bad, wrong);
        edges.is("decode()", x.decode(), 5);
        int[] outcomes = {1, 2, 0, 2, 1};
        int[] places = {0, 32, 128, 160, 256};
        for (int k = 0; k < 5; k++) {
            edges.is("OUTCOME of " + k, x.frame(k, 0), outcomes[k]);
            edges.is("first byte of " + k, x.frame(k, 1), places[k]);
        }
        edges.is("place", x.count(1), 288);
        edges.is("DECODED", x.count(3), 1);
        // Whatever made the one BAD: the next, of either Layer, is as if it stood alone.
        byte[][] kinds = {
            wrong, bad, new FrameWriter(1, 1, 1, 3).put(15, 4).bytes(), Sounds.ofLayerOne(63),
            new FrameWriter(1, 1, 1, 3).put(1, 4).put(0, 4, 31).put(0, 6).put(3, 2).bytes(),
            new FrameWriter(1, 1, 1, 0).bytes(), new FrameWriter(1, 1, 1, 3).put(14, 4).bytes(),
            new FrameWriter(2, 1, 1, 3).put(15, 4, 2).bytes(),
            new FrameWriter(2, 1, 1, 3).put(1, 4).put(0, 22).put(2, 2).put(0, 6).put(27, 5).bytes(),
        };
        byte[] two = second(0).bytes();
        for (int k = 0; k < kinds.length; k++) {
            SoundBench y = Tapes.of(kinds[k], Sounds.ofLayerOne(0), kinds[k], two);
            edges.is("kind " + k + ": decode()", y.decode(), 4);
            edges.is("kind " + k + ": OUTCOME", y.frame(0, 0), k == 0 ? 1 : 2);
            edges.is("kind " + k + ": then Layer I", y.frame(1, 0), 0);
            edges.is("kind " + k + ": OUTCOME again", y.frame(2, 0), k == 0 ? 1 : 2);
            edges.is("kind " + k + ": then Layer II", y.frame(3, 0), 0);
            edges.is("kind " + k + ": PCM", y.count(4), 384 + 1152);
        }
        // A HEADER in a FRAME's last four bytes is the FRAME's own, whatever the OUTCOME.
        for (byte[] frame : new byte[][] {SILENT, wrong, bad}) {
            byte[] marked = frame.clone();
            System.arraycopy(SILENT, 0, marked, marked.length - 4, 4);
            SoundBench y = Tapes.of(marked, Tapes.zeros(28));
            edges.is("a HEADER at the end: decode()", y.decode(), 1);
            edges.is("a HEADER at the end: place", y.count(1), marked.length + 25);
        }
    }

    private void lastThreeBytes() {
        edges.of("Term II", "Without such a byte it stops at the last three bytes (or fewer).");
        int[] ofNothing = {0, 0, 0, 0, 1, 2, 3, 4};
        for (int n = 0; n < ofNothing.length; n++) {
            SoundBench x = Tapes.of(Tapes.zeros(n));
            edges.is(n + " bytes: decode()", x.decode(), 0);
            edges.is(n + " bytes: place", x.count(1), ofNothing[n]);
            // Behind a FRAME there may be fewer than three.
            x = Tapes.of(SILENT, Tapes.zeros(n));
            edges.is(n + " bytes behind a FRAME: decode()", x.decode(), 1);
            edges.is(n + " bytes behind a FRAME: place", x.count(1), 32 + ofNothing[n]);
        }
        edges.is("4000 bytes", Edges.decoded(Tapes.zeros(4000)).count(1), 3997);
        // The place never goes back, though the TAPE becomes shorter.
        SoundBench x = Edges.decoded(Tapes.zeros(10));
        for (int n = 9; n >= 7; n--) {
            edges.is("end(" + n + ")", x.end(n), n);
            edges.is("decode()", x.decode(), 0);
            edges.is("place with " + n, x.count(1), 7);
        }
        // None, one, two and three of a HEADER's bytes in the last three: it's found when the rest comes.
        for (int there = 0; there <= 3; there++) {
            SoundBench y = Edges.decoded(Tapes.zeros(9), Arrays.copyOf(SILENT, there));
            edges.is(there + " bytes of a HEADER: place", y.count(1), 6 + there);
            Tapes.append(y, Arrays.copyOfRange(SILENT, there, 32));
            edges.is(there + " bytes of a HEADER: then", y.decode(), 1);
            edges.is(there + " bytes of a HEADER: first byte", y.frame(0, 1), 9);
        }
    }

    /** One CHANNEL of Layer I, three steps in band 0. */
    private static FrameWriter first(int flaw) {
        return new FrameWriter(1, 2, 1, 3).checked(flaw).put(1, 4).put(0, 4, 31).coveredHere().put(5, 6).put(1, 2, 12);
    }

    /** One CHANNEL of Layer II, 8 bands, three steps in band 0. */
    private static FrameWriter second(int flaw) {
        return new FrameWriter(2, 2, 1, 3).checked(flaw).put(1, 4).put(0, 22).put(2, 2).coveredHere().put(5, 6).put(13, 5, 12);
    }

    private void flipped(String name, FrameWriter writer, int bit, boolean covered) {
        byte[] bytes = writer.bytes();
        bytes[bit / 8] ^= (byte) (128 >> bit % 8);
        SoundBench x = Edges.decoded(bytes);
        edges.is(name + ", bit " + bit + ": FRAMES", x.count(2), 1);
        edges.holds(name + ", bit " + bit + ": CHECK wrong is " + covered, (x.frame(0, 0) == 1) == covered);
    }

    private void checkedBits() {
        edges.of("Term II", "CHECK: 16 bits behind the HEADER: of the HEADER's last 16 bits, then of Layer I all allocations, "
                + "of Layer II all allocations and SELECTIONS:");
        edges.outcome("Layer I, right", 0, first(0));
        edges.outcome("Layer II, right", 0, second(0));
        // Of the HEADER: those bits of its last 16 that change nothing else; its first 16 are the same in all such FRAMES.
        for (int bit : new int[] {23, 26, 27, 28, 29, 31}) {
            flipped("Layer I, HEADER", first(0), bit, true);
            flipped("Layer II, HEADER", second(0), bit, true);
        }
        // The CHECK's own bits, from its first to its last.
        for (int bit = 32; bit < 48; bit++) {
            flipped("Layer I, CHECK", first(0), bit, true);
            flipped("Layer II, CHECK", second(0), bit, true);
        }
        // Layer I: 128 bits of allocations; the factor behind them is of no CHECK.
        flipped("Layer I, first of the allocations", first(0), 48, true);
        flipped("Layer I, last of the allocations", first(0), 48 + 127, true);
        flipped("Layer I, first of the factors", first(0), 48 + 128, false);
        // Layer II: 26 bits of allocations, 2 of a SELECTION.
        flipped("Layer II, first of the allocations", second(0), 48, true);
        flipped("Layer II, last of the allocations", second(0), 48 + 25, true);
        flipped("Layer II, first of the SELECTION", second(0), 48 + 26, true);
        flipped("Layer II, last of the SELECTION", second(0), 48 + 27, true);
        flipped("Layer II, first of the factors", second(0), 48 + 28, false);
        // Two CHANNELS with a BOUND: 4 * (32 + 4) bits of allocations.
        FrameWriter joint = new FrameWriter(1, 2, 1, 1).checked(0).put(0, 4, 36).coveredHere();
        edges.outcome("joint, right", 0, joint);
        flipped("joint, last of the allocations", joint, 48 + 143, true);
        flipped("joint, behind them", joint, 48 + 144, false);
    }

    private void checkValues() {
        edges.of("Term II", "begun with 65535, for each bit: the highest bit and that bit unlike: all one to the left and XOR 0x8005, "
                + "else one to the left (16 bits).");
        for (int flaw : new int[] {0, 1, 0x8000, 0x103D, 0x103D ^ 0xFFFF, 0xFFFF}) {
            FrameWriter silent = new FrameWriter(1, 1, 1, 3).checked(flaw).put(0, 4, 32).coveredHere();
            byte[] bytes = silent.bytes();
            edges.is("the CHECK as it stands", (bytes[4] & 255) << 8 | bytes[5] & 255, 0x103D ^ flaw);
            edges.outcome("CHECK " + (0x103D ^ flaw), flaw == 0 ? 0 : 1, silent);
        }
        // Allocations of bands 26 to 31 whose CHECK is at an end of 16 bits.
        checkOf(0, 0, 0, 6, 5, 13, 8);
        checkOf(1, 0, 0, 13, 10, 2, 4);
        checkOf(0x8000, 0, 0, 10, 5, 13, 10);
        checkOf(0xFFFF, 4, 4, 8, 14, 14, 8);
    }

    private void checkOf(int check, int... allocations) {
        for (int flaw : new int[] {0, 1, 0x8000, 0xFFFF}) {
            FrameWriter writer = new FrameWriter(1, 14, 1, 3).checked(flaw).put(0, 4, 26);
            for (int a : allocations) {
                writer.put(a, 4);
            }
            byte[] bytes = writer.coveredHere().bytes();
            edges.is("the CHECK as it stands", (bytes[4] & 255) << 8 | bytes[5] & 255, check ^ flaw);
            edges.outcome("CHECK " + check + ", flaw " + flaw, flaw == 0 ? 0 : 1, writer);
        }
    }

    private void checkBeyondTheEnd() {
        edges.of("Term II", "(Where these bits are beyond the FRAME's end it is BAD.)");
        for (int flaw = 0; flaw < 2; flaw++) {
            // Two CHANNELS of Layer I: 32 + 16 + 256 bits; FRAMES of 256, 288, 384 and 512.
            edges.outcome("32 bytes", 2, new FrameWriter(1, 1, 1, 0).checked(flaw).put(0, 4, 64).coveredHere());
            edges.outcome("36 bytes", 2, new FrameWriter(1, 1, 1, 0).padded().checked(flaw).put(0, 4, 64).coveredHere());
            edges.outcome("48 bytes", flaw, new FrameWriter(1, 1, 2, 0).checked(flaw).put(0, 4, 64).coveredHere());
            edges.outcome("64 bytes", flaw, new FrameWriter(1, 2, 1, 0).checked(flaw).put(0, 4, 64).coveredHere());
            // With the highest BOUND 32 + 16 + 192 bits, with one CHANNEL 32 + 16 + 128: of 256.
            edges.outcome("BOUND 16", flaw,
                    new FrameWriter(1, 1, 1, 1).extension(3).checked(flaw).put(0, 4, 48).coveredHere());
            edges.outcome("one CHANNEL", flaw, new FrameWriter(1, 1, 1, 3).checked(flaw).put(0, 4, 32).coveredHere());
        }
        // The TAPE goes on behind the FRAME, but what stands there is not its own.
        byte[] cut = new FrameWriter(1, 1, 1, 0).checked(0).put(0, 4, 64).coveredHere().bytes();
        edges.is("with bytes behind it", Edges.decoded(cut, Tapes.zeros(40)).frame(0, 0), 2);
        // Without a CHECK the allocations alone: 32 + 256 bits are just 36 bytes.
        edges.outcome("no CHECK, 32 bytes", 2, new FrameWriter(1, 1, 1, 0));
        edges.outcome("no CHECK, 36 bytes", 0, new FrameWriter(1, 1, 1, 0).padded());
    }

    private void checkAheadOfBad() {
        edges.of("Term II", "Allocations that III, IV call BAD are so behind the CHECK alone; else 1 comes ahead of 2.");
        for (int flaw = 0; flaw < 2; flaw++) {
            int want = flaw == 1 ? 1 : 2;
            String name = flaw == 1 ? "CHECK wrong, " : "CHECK right, ";
            edges.outcome(name + "all GOOD", flaw, first(flaw));
            edges.outcome(name + "allocation 14", flaw, allotted(flaw, 14));
            edges.outcome(name + "allocation 15", want, allotted(flaw, 15));
            FrameWriter last = new FrameWriter(1, 14, 1, 3).checked(flaw).put(0, 4, 31).put(15, 4).coveredHere();
            edges.outcome(name + "allocation 15 of the last band", want, last);
            FrameWriter writer = new FrameWriter(1, 2, 1, 3).checked(flaw).put(1, 4).put(0, 4, 31).coveredHere();
            edges.outcome(name + "factor 63", want, writer.put(63, 6));
            writer = new FrameWriter(1, 2, 1, 3).checked(flaw).put(1, 4).put(0, 4, 31).coveredHere();
            edges.outcome(name + "code L", want, writer.put(0, 6).put(3, 2));
            writer = new FrameWriter(1, 1, 1, 3).checked(flaw).put(14, 4).put(0, 4, 31).coveredHere();
            edges.outcome(name + "codes beyond the end", want, writer);
            edges.outcome(name + "Layer II", flaw, second(flaw));
            writer = new FrameWriter(2, 2, 1, 3).checked(flaw).put(1, 4).put(0, 22).put(2, 2).coveredHere();
            edges.outcome(name + "Layer II, factor 63", want, writer.put(63, 6));
            writer = new FrameWriter(2, 2, 1, 3).checked(flaw).put(1, 4).put(0, 22).put(2, 2).coveredHere();
            edges.outcome(name + "Layer II, code 27", want, writer.put(0, 6).put(27, 5));
            writer = new FrameWriter(2, 1, 1, 3).checked(flaw).put(15, 4, 2).put(0, 18).put(2, 2, 2).coveredHere();
            edges.outcome(name + "Layer II, codes beyond the end", want, writer);
        }
        edges.outcome("no CHECK, allocation 15", 2, new FrameWriter(1, 14, 1, 3).put(15, 4));
        edges.outcome("no CHECK, allocation 14", 0, new FrameWriter(1, 14, 1, 3).put(14, 4));
    }

    private static FrameWriter allotted(int flaw, int allocation) {
        return new FrameWriter(1, 14, 1, 3).checked(flaw).put(allocation, 4).put(0, 4, 31).coveredHere();
    }

    private void bounds() {
        edges.of("Term II", "BOUND: with MODE 1 4 * (EXTENSION + 1), but no more than the bands told; else all of these.");
        // Layer, RATE, SAMPLING, bands told; then BOUND by EXTENSION.
        int[][] joint = {
            {1, 4, 1, 32, 4, 8, 12, 16}, {2, 4, 1, 8, 4, 8, 8, 8}, {2, 4, 0, 8, 4, 8, 8, 8}, {2, 4, 2, 12, 4, 8, 12, 12},
            {2, 7, 1, 27, 4, 8, 12, 16}, {2, 10, 0, 30, 4, 8, 12, 16},
        };
        for (int[] j : joint) {
            for (int extension = 0; extension < 4; extension++) {
                for (int mode = 0; mode < 4; mode++) {
                    FrameWriter writer = new FrameWriter(j[0], j[1], j[2], mode).extension(extension);
                    int want = mode == 1 ? j[4 + extension] : j[3];
                    // One CHANNEL has all kbit/s for itself, and other bands told.
                    if (mode != 3 || j[0] == 1) {
                        edges.is(Arrays.toString(j) + ", MODE " + mode, Edges.decoded(writer.bytes()).frame(0, 8), want);
                    }
                }
            }
        }
        edges.is("one CHANNEL, 8 bands", Edges.decoded(new FrameWriter(2, 1, 1, 3).bytes()).frame(0, 8), 8);
        edges.is("one CHANNEL, 12 bands", Edges.decoded(new FrameWriter(2, 1, 2, 3).bytes()).frame(0, 8), 12);
    }
}
