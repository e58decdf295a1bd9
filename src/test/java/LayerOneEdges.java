/** Boundaries of what a FRAME of Layer I holds: Term III. */
final class LayerOneEdges {
    private final Edges edges;

    LayerOneEdges(Edges edges) {
        this.edges = edges;
    }

    void ask() {
        allocationsAtTheBound();
        allocationValues();
        factorValues();
        twelveTimes();
        codesOfL();
    }

    /** One CHANNEL, 448 bytes; this allocation in this band, 0 in all others. */
    private static FrameWriter allotted(int band, int allocation) {
        return new FrameWriter(1, 14, 1, 3).put(0, 4, band).put(allocation, 4).put(0, 4, 31 - band);
    }

    private void allocationsAtTheBound() {
        edges.of("Term III", "LAYER I. 32 bands. Allocations, 4 bits each: below BOUND for each band, each CHANNEL; from it on one for "
                + "each band (of both):");
        for (int extension = 0; extension < 4; extension++) {
            int bound = 4 * extension + 4;
            // The last band below: 1 and 2; the first from it on: 3 of both; the last of all: 4 of both.
            FrameWriter writer = new FrameWriter(1, 14, 1, 1).extension(extension).put(0, 4, 2 * bound - 2).put(1, 4)
                    .put(2, 4).put(3, 4).put(0, 4, 30 - bound).put(4, 4);
            SoundBench x = edges.outcome("BOUND " + bound, 0, writer);
            int[][] want = {{bound - 2, 0, 0}, {bound - 1, 3, 7}, {bound, 15, 15}, {bound + 1, 0, 0}, {30, 0, 0}, {31, 31, 31}};
            for (int[] w : want) {
                edges.is("BOUND " + bound + ", steps(0, " + w[0] + ")", x.steps(0, w[0]), w[1]);
                edges.is("BOUND " + bound + ", steps(1, " + w[0] + ")", x.steps(1, w[0]), w[2]);
            }
        }
        // No BOUND: each CHANNEL up to band 31.
        for (int mode : new int[] {0, 2}) {
            SoundBench x = edges.outcome("MODE " + mode, 0, new FrameWriter(1, 14, 1, mode).extension(1).put(5, 4).put(6, 4)
                    .put(0, 4, 60).put(1, 4).put(2, 4));
            edges.is("steps(0, 0)", x.steps(0, 0), 63);
            edges.is("steps(1, 0)", x.steps(1, 0), 127);
            edges.is("steps(0, 31)", x.steps(0, 31), 3);
            edges.is("steps(1, 31)", x.steps(1, 31), 7);
        }
        SoundBench x = edges.outcome("one CHANNEL", 0, new FrameWriter(1, 14, 1, 3).put(5, 4).put(0, 4, 30).put(1, 4));
        edges.is("steps(0, 0) of one", x.steps(0, 0), 63);
        edges.is("steps(0, 31) of one", x.steps(0, 31), 3);
        edges.is("steps(0, 32) of one", x.steps(0, 32), -1);
    }

    private void allocationValues() {
        edges.of("Term III", "0: none; 15: BAD; else a is a + 1 bits.");
        for (int band : new int[] {0, 31}) {
            for (int a = 0; a <= 15; a++) {
                String name = "allocation " + a + " of band " + band;
                FrameWriter writer = allotted(band, a);
                if (a > 0 && a < 15) {
                    // A code of 0, then one of 1: each has a + 1 bits.
                    writer.put(0, 6).put(0, a + 1).put(1, a + 1);
                }
                SoundBench x = edges.outcome(name, a == 15 ? 2 : 0, writer);
                int l = (2 << a) - 1;
                edges.is(name + ": steps", x.steps(0, band), a == 15 ? -1 : a == 0 ? 0 : l);
                edges.is(name + ": factor", x.factor(0, band, 0), a == 15 || a == 0 ? -1 : 0);
                edges.is(name + ": row 0", x.band(0, band, 0), a == 15 || a == 0 ? 0 : (1 - l) * 2097152L / l);
                edges.is(name + ": row 1", x.band(0, band, 1), a == 15 || a == 0 ? 0 : (3 - l) * 2097152L / l);
            }
        }
        edges.outcome("allocation 15 of CHANNEL 1", 2, new FrameWriter(1, 14, 1, 0).put(0, 4).put(15, 4));
        edges.outcome("allocation 15 of both", 2, new FrameWriter(1, 14, 1, 1).put(0, 4, 8).put(15, 4));
    }

    private void factorValues() {
        edges.of("Term III", "Then factors, 6 bits each: for each band, each CHANNEL with an allocation; 63: BAD.");
        for (int f : new int[] {0, 1, 31, 32, 61, 62, 63}) {
            for (int band : new int[] {0, 31}) {
                SoundBench x = edges.outcome("factor " + f, f == 63 ? 2 : 0, allotted(band, 1).put(f, 6));
                edges.is("factor " + f, x.factor(0, band, 0), f == 63 ? -1 : f);
            }
        }
        // The last of several is BAD as well; without an allocation there is none.
        for (int f = 62; f <= 63; f++) {
            FrameWriter writer = new FrameWriter(1, 14, 1, 0).put(1, 4).put(0, 4, 62).put(1, 4).put(20, 6).put(f, 6);
            SoundBench x = edges.outcome("the last factor " + f, f == 63 ? 2 : 0, writer);
            edges.is("of CHANNEL 0, band 0", x.factor(0, 0, 0), f == 63 ? -1 : 20);
            edges.is("of CHANNEL 1, band 31", x.factor(1, 31, 0), f == 63 ? -1 : 62);
            edges.is("of CHANNEL 1, band 0", x.factor(1, 0, 0), -1);
            edges.is("of CHANNEL 0, band 31", x.factor(0, 31, 0), -1);
        }
        // From BOUND on there is one allocation, but a factor of each CHANNEL; of the second, too, 63 is BAD.
        for (int f = 62; f <= 63; f++) {
            FrameWriter writer = new FrameWriter(1, 14, 1, 1).put(0, 4, 8).put(1, 4).put(0, 4, 27).put(9, 6).put(f, 6);
            SoundBench x = edges.outcome("the factor of CHANNEL 1 from BOUND on " + f, f == 63 ? 2 : 0, writer);
            edges.is("factor(0, 4, 0)", x.factor(0, 4, 0), f == 63 ? -1 : 9);
            edges.is("factor(1, 4, 0)", x.factor(1, 4, 0), f == 63 ? -1 : 62);
        }
    }

    private void twelveTimes() {
        edges.of("Term III", "Then 12 times: for each band below BOUND, each CHANNEL with an allocation, a code; from it on one code for "
                + "each band (with an allocation), of both CHANNELS.");
        // BOUND 4: band 3 has codes of each CHANNEL, band 4 one of both, band 5 none.
        FrameWriter writer = new FrameWriter(1, 14, 1, 1).put(0, 4, 6).put(3, 4, 2).put(3, 4).put(0, 4, 27)
                .put(0, 6).put(3, 6).put(6, 6).put(9, 6);
        for (int t = 0; t < 12; t++) {
            writer.put(t, 4).put(t + 1, 4).put(t + 2, 4);
        }
        // A thirteenth go is not read: a code of 15 would be BAD.
        SoundBench x = edges.outcome("a thirteenth go", 0, writer.put(15, 4, 3));
        for (int t : new int[] {-1, 0, 1, 10, 11, 12}) {
            boolean there = t >= 0 && t < 12;
            edges.is("0, 3 in row " + t, x.band(0, 3, t), there ? (2 * t - 14) * 2097152L / 15 : 0);
            edges.is("1, 3 in row " + t, x.band(1, 3, t), there ? (2 * t - 12) * 1048576L / 15 : 0);
            edges.is("0, 4 in row " + t, x.band(0, 4, t), there ? (2 * t - 10) * 524288L / 15 : 0);
            edges.is("1, 4 in row " + t, x.band(1, 4, t), there ? (2 * t - 10) * 262144L / 15 : 0);
            edges.is("0, 5 in row " + t, x.band(0, 5, t), 0);
        }
        // Below BOUND with an allocation of the one CHANNEL alone: no code of the other.
        writer = new FrameWriter(1, 14, 1, 0).put(0, 4).put(3, 4).put(3, 4).put(0, 4, 61).put(0, 6, 2);
        for (int t = 0; t < 12; t++) {
            writer.put(t, 4).put(14 - t, 4);
        }
        x = edges.outcome("one CHANNEL of a band", 0, writer);
        for (int t : new int[] {0, 11}) {
            edges.is("1, 0 in row " + t, x.band(1, 0, t), (2 * t - 14) * 2097152L / 15);
            edges.is("0, 1 in row " + t, x.band(0, 1, t), (14 - 2 * t) * 2097152L / 15);
            edges.is("0, 0 in row " + t, x.band(0, 0, t), 0);
            edges.is("1, 1 in row " + t, x.band(1, 1, t), 0);
        }
    }

    private void codesOfL() {
        edges.of("Term III", "Steps L: 2 to the power of its bits less 1; a code L: BAD.");
        for (int a = 1; a <= 14; a++) {
            int l = (1 << a + 1) - 1;
            for (int row : new int[] {0, 1, 11}) {
                for (int code = l - 1; code <= l; code++) {
                    String name = "code " + code + " of " + l + " in row " + row;
                    SoundBench x = edges.outcome(name, code == l ? 2 : 0,
                            allotted(7, a).put(0, 6).put(0, a + 1, row).put(code, a + 1));
                    edges.is(name + ": steps", x.steps(0, 7), code == l ? -1 : l);
                    edges.is(name + ": SAMPLE", x.band(0, 7, row), code == l ? 0 : (l - 1) * 2097152L / l);
                }
            }
        }
        // From BOUND on, and of the second CHANNEL.
        for (int code = 2; code <= 3; code++) {
            edges.outcome("code " + code + " of both", code == 3 ? 2 : 0,
                    new FrameWriter(1, 14, 1, 1).put(0, 4, 8).put(1, 4).put(0, 4, 27).put(0, 12).put(code, 2));
            edges.outcome("code " + code + " of CHANNEL 1", code == 3 ? 2 : 0,
                    new FrameWriter(1, 14, 1, 0).put(0, 4).put(1, 4).put(0, 4, 62).put(0, 6).put(code, 2));
        }
    }
}
