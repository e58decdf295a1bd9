/** Boundaries of what a FRAME of Layer II holds, and of SAMPLES in both Layers: Term IV. */
final class LayerTwoEdges {
    private static final int[][] FIRST = LayerTwoTables.FIRST;
    private static final int[][] SECOND = LayerTwoTables.SECOND;

    private final Edges edges;

    LayerTwoEdges(Edges edges) {
        this.edges = edges;
    }

    void ask() {
        bandsTold();
        tables();
        steps();
        noBadAllocations();
        selections();
        factors();
        twelveTimes();
        groups();
        singleCodes();
        endOfFirstLayer();
        endOfSecondLayer();
        behindTheLastCode();
        samples();
        sizes();
        withoutAllocation();
    }

    /** One CHANNEL of 192 kbit/s, 44100: 30 bands of the first table. */
    private static FrameWriter wide(int band, int allocation) {
        return LayerTwoTables.allotted(new FrameWriter(2, 10, 0, 3), 30, FIRST, band, allocation);
    }

    /** One CHANNEL of 48 kbit/s, 48000: 8 bands of the second table. */
    private static FrameWriter narrow(int band, int allocation) {
        return LayerTwoTables.allotted(new FrameWriter(2, 2, 1, 3), 8, SECOND, band, allocation);
    }

    /** The last band told has an allocation; the one behind it can have none. */
    private void told(int rate, int sampling, int mode, int bands, int[][] table) {
        String name = "RATE " + rate + ", SAMPLING " + sampling + ", MODE " + mode;
        FrameWriter writer = new FrameWriter(2, rate, sampling, mode);
        int channels = mode == 3 ? 1 : 2;
        for (int b = 0; b < bands; b++) {
            writer.put(b == bands - 1 ? 1 : 0, LayerTwoTables.rowOf(table, b)[1]);
            // The second CHANNEL has none.
            writer.put(0, channels == 2 ? LayerTwoTables.rowOf(table, b)[1] : 0);
        }
        SoundBench x = edges.outcome(name, 0, writer.put(2, 2).put(33, 6).put(26, 5));
        edges.is(name + ": BOUND", x.frame(0, 8), bands);
        edges.is(name + ": steps of the last", x.steps(0, bands - 1), 3);
        edges.is(name + ": factor of the last", x.factor(0, bands - 1, 0), 33);
        edges.is(name + ": steps behind it", x.steps(0, bands), 0);
        edges.is(name + ": SAMPLE of the last", x.band(0, bands - 1, 0), 2 * 1024 / 3);
    }

    private void bandsTold() {
        edges.of("Term IV", "LAYER II. k kbit/s for a CHANNEL (half of all with two).");
        // 56 is k of 56 with one CHANNEL, of 112 with two; 48 that of 48 and 96.
        for (int mode = 0; mode < 3; mode += 2) {
            told(7, 0, mode, 27, FIRST);
            told(6, 0, mode, 8, SECOND);
        }
        told(3, 0, 3, 27, FIRST);
        told(2, 0, 3, 8, SECOND);
        told(7, 0, 3, 30, FIRST);
        edges.of("Term IV", "Of k 56 to 80, or SAMPLING 48000 and 56 and more: 27 bands of the first table;");
        for (int sampling = 0; sampling < 3; sampling++) {
            told(3, sampling, 3, 27, FIRST);
            told(4, sampling, 3, 27, FIRST);
            told(5, sampling, 3, 27, FIRST);
            told(7, sampling, 0, 27, FIRST);
            told(9, sampling, 0, 27, FIRST);
            // Just below 56, and just above 80.
            told(2, sampling, 3, sampling == 2 ? 12 : 8, SECOND);
            told(6, sampling, 0, sampling == 2 ? 12 : 8, SECOND);
            told(6, sampling, 3, sampling == 1 ? 27 : 30, FIRST);
            told(10, sampling, 0, sampling == 1 ? 27 : 30, FIRST);
        }
        told(10, 1, 3, 27, FIRST);
        told(14, 1, 0, 27, FIRST);
        edges.of("Term IV", "else of 96 and more: 30 of the first;");
        for (int sampling = 0; sampling < 3; sampling += 2) {
            told(6, sampling, 3, 30, FIRST);
            told(10, sampling, 3, 30, FIRST);
            told(10, sampling, 0, 30, FIRST);
            told(14, sampling, 0, 30, FIRST);
            told(5, sampling, 3, 27, FIRST);
            told(9, sampling, 0, 27, FIRST);
        }
        edges.of("Term IV", "else, but of SAMPLING 32000: 8 of the second; else 12 of the second.");
        for (int sampling = 0; sampling < 3; sampling++) {
            int bands = sampling == 2 ? 12 : 8;
            told(1, sampling, 3, bands, SECOND);
            told(2, sampling, 3, bands, SECOND);
            told(4, sampling, 0, bands, SECOND);
            told(6, sampling, 0, bands, SECOND);
        }
    }

    /** Every allocation of a band, with the band's own SELECTION and factor right behind all allocations. */
    private void everyAllocation(int rate, int sampling, int bands, int[][] table, int band) {
        int width = LayerTwoTables.rowOf(table, band)[1];
        for (int a = 0; a < 1 << width; a++) {
            String name = "band " + band + " of " + bands + ", allocation " + a;
            FrameWriter writer = LayerTwoTables.allotted(new FrameWriter(2, rate, sampling, 3), bands, table, band, a);
            SoundBench x = edges.outcome(name, 0, a == 0 ? writer : writer.put(2, 2).put(17, 6));
            edges.is(name + ": steps", x.steps(0, band), a == 0 ? 0 : LayerTwoTables.stepsOf(table, band, a));
            edges.is(name + ": factor", x.factor(0, band, 0), a == 0 ? -1 : 17);
            edges.is(name + ": the band before", x.steps(0, band - 1), band == 0 ? -1 : 0);
            edges.is(name + ": the band behind", x.steps(0, band + 1), 0);
        }
    }

    private void tables() {
        edges.of("Term IV", "By band: bits of the allocation, then what 1, 2, .. are, as numbers of STEPS: "
                + "first: 0 .. 2: 4 bits: 0, 2, 4, 5, 6, 7, 8, 9, 10, 11, 12, 13, 14, 15, 16; "
                + "3 .. 10: 4: 0, 1, 2, 3, 4, 5, 6, 7, 8, 9, 10, 11, 12, 13, 16; "
                + "11 .. 22: 3: 0, 1, 2, 3, 4, 5, 16; 23 .. 29: 2: 0, 1, 16.");
        for (int band : new int[] {0, 2, 3, 10, 11, 22, 23, 26}) {
            everyAllocation(10, 1, 27, FIRST, band);
            everyAllocation(10, 0, 30, FIRST, band);
        }
        everyAllocation(10, 0, 30, FIRST, 29);
        edges.of("Term IV", "second: 0, 1: 4: 0, 1, 3, 4, 5, 6, 7, 8, 9, 10, 11, 12, 13, 14, 15; 2 .. 11: 3: 0, 1, 3, 4, 5, 6, 7.");
        for (int band : new int[] {0, 1, 2, 7}) {
            everyAllocation(2, 1, 8, SECOND, band);
            everyAllocation(2, 2, 12, SECOND, band);
        }
        everyAllocation(2, 2, 12, SECOND, 11);
    }

    private void steps() {
        edges.of("Term IV", "STEPS: 0: 3, 1: 5, 2: 7, 3: 9, 4 to 16: 15, 31, .. 65535.");
        // Numbers 0 to 13 and 16 stand in band 3 of the first table, 14 and 15 in band 0.
        int[] ofThree = {3, 5, 7, 9, 15, 31, 63, 127, 255, 511, 1023, 2047, 4095, 8191, 65535};
        for (int a = 1; a <= 15; a++) {
            edges.is("allocation " + a + " of band 3", Edges.decoded(wide(3, a).bytes()).steps(0, 3), ofThree[a - 1]);
        }
        edges.is("number 14", Edges.decoded(wide(0, 13).bytes()).steps(0, 0), 16383);
        edges.is("number 15", Edges.decoded(wide(0, 14).bytes()).steps(0, 0), 32767);
        edges.is("number 16", Edges.decoded(wide(0, 15).bytes()).steps(0, 0), 65535);
    }

    private void noBadAllocations() {
        edges.of("Term IV", "Allocations as in III (no BAD ones).");
        edges.outcome("all ones of four bits, first table", 0, wide(0, 15));
        edges.outcome("all ones of four bits, band 10", 0, wide(10, 15));
        edges.outcome("all ones of three bits", 0, wide(11, 7));
        edges.outcome("all ones of two bits", 0, wide(23, 3));
        edges.outcome("all ones of four bits, second table", 0, narrow(0, 15));
        edges.outcome("all ones of three bits, second table", 0, narrow(2, 7));
        // As in III: below BOUND of each CHANNEL, from it on one of both. Of 8 bands: 4 bits in 0 and 1, 3 in the others.
        FrameWriter writer = new FrameWriter(2, 6, 1, 1).put(0, 4, 4).put(0, 3, 2).put(1, 3).put(2, 3).put(4, 3).put(0, 3, 2)
                .put(1, 3);
        SoundBench x = edges.outcome("BOUND 4", 0, writer);
        int[][] want = {{2, 0, 0}, {3, 3, 5}, {4, 15, 15}, {5, 0, 0}, {7, 3, 3}};
        for (int[] w : want) {
            edges.is("steps(0, " + w[0] + ")", x.steps(0, w[0]), w[1]);
            edges.is("steps(1, " + w[0] + ")", x.steps(1, w[0]), w[2]);
        }
        // A BOUND of 12 that is cut to the 8 bands told: all of them of each CHANNEL.
        writer = new FrameWriter(2, 6, 1, 1).extension(2).put(0, 4, 4).put(0, 3, 10).put(1, 3).put(2, 3);
        x = edges.outcome("BOUND 8", 0, writer);
        edges.is("steps(0, 7)", x.steps(0, 7), 3);
        edges.is("steps(1, 7)", x.steps(1, 7), 5);
    }

    private void selections() {
        edges.of("Term IV", "SELECTIONS, 2 bits: for each band, each CHANNEL with an allocation.");
        // Two CHANNELS of 8 bands: band 0 of the first, band 7 of the second; SELECTIONS 1 and 3, no others.
        FrameWriter writer = new FrameWriter(2, 6, 1, 0).put(1, 4).put(0, 4, 3).put(0, 3, 11).put(1, 3).put(1, 2).put(3, 2)
                .put(10, 6).put(11, 6).put(12, 6).put(13, 6);
        thirds("each its own", edges.outcome("two CHANNELS", 0, writer), 0, 0, 10, 10, 11);
        thirds("each its own", edges.outcome("two CHANNELS", 0, writer), 1, 7, 12, 13, 13);
        // From BOUND on each CHANNEL has its own, of the one allocation.
        writer = new FrameWriter(2, 6, 1, 1).put(0, 4, 4).put(0, 3, 7).put(1, 3).put(3, 2).put(0, 2)
                .put(20, 6).put(21, 6).put(22, 6).put(23, 6).put(24, 6);
        SoundBench x = edges.outcome("from BOUND on", 0, writer);
        thirds("from BOUND on", x, 0, 7, 20, 21, 21);
        thirds("from BOUND on", x, 1, 7, 22, 23, 24);
        // Without any allocation there is none, and a FRAME of zeros is all silent.
        x = edges.outcome("no allocation", 0, new FrameWriter(2, 6, 1, 0));
        thirds("no allocation", x, 0, 0, -1, -1, -1);
    }

    private void thirds(String name, SoundBench x, int channel, int band, int... want) {
        for (int third = 0; third < 3; third++) {
            edges.is(name + ": factor(" + channel + ", " + band + ", " + third + ")", x.factor(channel, band, third), want[third]);
        }
    }

    private void factors() {
        edges.of("Term IV", "Factors, 6 bits each, likewise: by SELECTION 0: three, one for each third of the FRAME; 1: two, the first "
                + "for the first two thirds; 2: one; 3: two, the second for the last two thirds.");
        int[][] thirds = {{3, 6, 9}, {3, 3, 6}, {3, 3, 3}, {3, 6, 6}};
        int[] counts = {3, 2, 1, 2};
        for (int selection = 0; selection < 4; selection++) {
            // Codes right behind the factors: 26 is three times 2; a factor too many or too few would shift them.
            FrameWriter writer = narrow(0, 1).put(selection, 2);
            for (int i = 1; i <= counts[selection]; i++) {
                writer.put(3 * i, 6);
            }
            SoundBench x = edges.outcome("SELECTION " + selection, 0, writer.put(26, 5, 12));
            thirds("SELECTION " + selection, x, 0, 0, thirds[selection]);
            for (int t : new int[] {0, 11, 12, 23, 24, 35}) {
                int f = thirds[selection][t / 12];
                edges.is("SELECTION " + selection + ", row " + t, x.band(0, 0, t), 2 * (2097152L >> f / 3) / 3);
            }
        }
        edges.of("Term IV", "63: BAD.");
        for (int selection = 0; selection < 4; selection++) {
            for (int at = 0; at < counts[selection]; at++) {
                for (int f = 62; f <= 63; f++) {
                    FrameWriter writer = narrow(7, 1).put(selection, 2);
                    for (int i = 0; i < counts[selection]; i++) {
                        writer.put(i == at ? f : 0, 6);
                    }
                    edges.outcome("SELECTION " + selection + ", factor " + f + " at " + at, f == 63 ? 2 : 0, writer);
                }
            }
        }
    }

    private void twelveTimes() {
        edges.of("Term IV", "Then 12 times (four to a third): bands and CHANNELS as in III: three samples each:");
        // BOUND 4: band 3 of each CHANNEL (15 steps), band 4 of both; SELECTION 0 with a factor for each third.
        FrameWriter writer = new FrameWriter(2, 9, 1, 1).put(0, 4, 6).put(5, 4, 2).put(5, 4).put(0, 24).put(0, 36).put(0, 8)
                .put(0, 2, 4);
        for (int i = 0; i < 4; i++) {
            writer.put(0, 6).put(3, 6).put(6, 6);
        }
        for (int g = 0; g < 12; g++) {
            writer.put(g, 4).put(g + 1, 4).put(g + 2, 4).put(14, 4, 3).put(14 - g, 4).put(13 - g, 4).put(12 - g, 4);
        }
        // A thirteenth go is not read: codes of 15 would be BAD.
        SoundBench x = edges.outcome("a thirteenth go", 0, writer.put(15, 4, 9));
        for (int t : new int[] {0, 1, 2, 3, 11, 12, 23, 24, 34, 35}) {
            int g = t / 3;
            int i = t % 3;
            long size = 2097152L >> g / 4;
            edges.is("0, 3 in row " + t, x.band(0, 3, t), (2 * (g + i) - 14) * size / 15);
            edges.is("1, 3 in row " + t, x.band(1, 3, t), 14 * size / 15);
            edges.is("0, 4 in row " + t, x.band(0, 4, t), (2 * (14 - g - i) - 14) * size / 15);
            edges.is("1, 4 in row " + t, x.band(1, 4, t), (2 * (14 - g - i) - 14) * size / 15);
        }
        edges.is("no row 36", x.band(0, 3, 36), 0);
    }

    private void groups() {
        edges.of("Term IV", "of 3, 5, 9 steps one code of 5, 7, 10 bits: the first is its remainder by L, the next that of the quotient, "
                + "the third the next (27, 125, 729 and more: BAD);");
        int[] steps = {3, 5, 9};
        for (int a = 1; a <= 3; a++) {
            int l = steps[a - 1];
            int bits = LayerTwoTables.groupBits(l);
            int all = l * l * l;
            for (int code : new int[] {0, 1, l - 1, l, l * l - 1, l * l, all - 1, all, all + 1, (1 << bits) - 1}) {
                for (int go : new int[] {0, 11}) {
                    String name = "code " + code + " of " + l + " steps in go " + go;
                    SoundBench x = edges.outcome(name, code < all ? 0 : 2,
                            narrow(0, a).put(2, 2).put(0, 6).put(0, bits, go).put(code, bits));
                    int[] want = {code % l, code / l % l, code / l / l};
                    for (int i = 0; i < 3; i++) {
                        edges.is(name + ", sample " + i, x.band(0, 0, 3 * go + i),
                                code < all ? (2 * want[i] + 1 - l) * 2097152L / l : 0);
                    }
                }
            }
        }
    }

    private void singleCodes() {
        edges.of("Term IV", "of others three codes of as many bits as L has; L: BAD.");
        // Band 0 of the first table: allocation 2 is of 7 steps, 3 of 15, .. 15 of 65535.
        for (int a = 2; a <= 15; a++) {
            int l = LayerTwoTables.stepsOf(FIRST, 0, a);
            int bits = a + 1;
            for (int at : new int[] {0, 1, 2, 33, 34, 35}) {
                for (int code = l - 1; code <= l; code++) {
                    String name = "code " + code + " of " + l + " in row " + at;
                    SoundBench x = edges.outcome(name, code == l ? 2 : 0,
                            wide(0, a).put(2, 2).put(0, 6).put(0, bits, at).put(code, bits));
                    edges.is(name + ": SAMPLE", x.band(0, 0, at), code == l ? 0 : (l - 1) * 2097152L / l);
                    edges.is(name + ": the next", x.band(0, 0, at + 1), code == l || at == 35 ? 0 : (1 - l) * 2097152L / l);
                }
            }
        }
    }

    private void endOfFirstLayer() {
        edges.of("Term IV", "(In both Layers: what is beyond the FRAME's end: BAD.");
        // Layer I, one CHANNEL: 32 + 128 of 256 bits leave 96. Codes of 3 and 4 bits take 12 + 84; one of 8 bits 6 + 96.
        FrameWriter exact = new FrameWriter(1, 1, 1, 3).put(2, 4).put(3, 4).put(0, 4, 30).put(0, 12).put(0, 7, 11).put(6, 3)
                .put(13, 4);
        edges.is("room left", exact.room(), 0);
        SoundBench x = edges.outcome("up to the last bit", 0, exact);
        edges.is("the last code's last bit", x.band(0, 1, 11), (2 * 13 - 14) * 2097152L / 15);
        edges.outcome("six bits beyond", 2, new FrameWriter(1, 1, 1, 3).put(7, 4).put(0, 4, 31));
        // With a CHECK and BOUND 4: 32 + 16 + 144 of 256 bits leave 64; 12 + 48 fit, 6 + 60 are two too many.
        FrameWriter writer = new FrameWriter(1, 1, 1, 1).checked(0).put(0, 4, 8).put(3, 4).put(0, 4, 27).coveredHere();
        edges.outcome("four bits to spare", 0, writer);
        writer = new FrameWriter(1, 1, 1, 1).checked(0).put(4, 4).put(0, 4, 35).coveredHere();
        edges.outcome("two bits beyond", 2, writer);
        // Sixteen factors are the 96 bits that are left, the codes have none; seventeen are too many themselves.
        edges.outcome("factors up to the last bit, codes beyond", 2, new FrameWriter(1, 1, 1, 3).put(1, 4, 16).put(0, 4, 16));
        edges.outcome("factors beyond", 2, new FrameWriter(1, 1, 1, 3).put(1, 4, 17).put(0, 4, 15));
        // Allocations: two CHANNELS take 256 bits, and 256 are left of 36 bytes, 224 of 32.
        edges.outcome("allocations up to the last bit", 0, new FrameWriter(1, 1, 1, 0).padded());
        edges.outcome("allocations up to the last bit, a factor beyond", 2, new FrameWriter(1, 1, 1, 0).padded().put(0, 4, 63)
                .put(1, 4));
        edges.outcome("allocations beyond", 2, new FrameWriter(1, 1, 1, 0));
        // Beyond is beyond, though the TAPE has bytes there.
        byte[] cut = new FrameWriter(1, 1, 1, 3).put(7, 4).put(0, 4, 31).bytes();
        edges.is("bytes behind the FRAME", Edges.decoded(cut, Tapes.zeros(60)).frame(0, 0), 2);
    }

    private void endOfSecondLayer() {
        // One CHANNEL, 8 bands: 32 + 26 of 768 bits leave 710: 4 SELECTIONS, 5 factors, 12 times 36 + 10 + 5 + 5.
        for (int selection = 0; selection < 4; selection++) {
            FrameWriter writer = new FrameWriter(2, 1, 1, 3).put(12, 4).put(3, 4).put(1, 3, 2).put(0, 3, 4).put(selection, 2)
                    .put(2, 2, 3);
            int factors = new int[] {6, 5, 4, 5}[selection];
            writer.put(0, 6, factors).put(0, 56, 11).put(0, 51).put(26, 5);
            edges.is("room left", writer.room(), 30 - 6 * factors);
            SoundBench x = edges.outcome(factors + " factors", factors > 5 ? 2 : 0, writer);
            edges.is("the last code", x.band(0, 3, 35), factors > 5 ? 0 : 2 * 2097152L / 3);
        }
        // BOUND 12 of 27 bands: 32 + 135 of 2688 bits, an odd number: one bit to spare, and one too many.
        FrameWriter spare = oddSides(6).put(2, 2, 4).put(1, 2, 2).put(0, 6, 8).put(0, 205, 12);
        edges.is("room left", spare.room(), 1);
        edges.outcome("one bit to spare", 0, spare);
        FrameWriter over = oddSides(7).put(2, 2, 6).put(1, 2).put(0, 6, 8).put(0, 205, 12);
        edges.is("room lacking", over.room(), -1);
        edges.outcome("one bit too many", 2, over);
    }

    /**
     * Two CHANNELS of 112 kbit/s, 48000; the first CHANNEL of bands 0 to 5 or 6 has allocations that take 205 bits a
     * go: 48, 48, 48, 36, 15, 10, or 48, 48, 48, 36, 10, 10, 5.
     */
    private static FrameWriter oddSides(int bands) {
        int[] allocations = bands == 6 ? new int[] {15, 15, 15, 13, 6, 4, 0} : new int[] {15, 15, 15, 13, 4, 4, 1};
        FrameWriter writer = new FrameWriter(2, 7, 1, 1).extension(2);
        for (int a : allocations) {
            writer.put(a, 4).put(0, 4);
        }
        return writer.put(0, 32).put(0, 6).put(0, 33).put(0, 8);
    }

    private void behindTheLastCode() {
        edges.of("Term IV", "What is behind the last code counts nothing.)");
        FrameWriter writer = new FrameWriter(1, 1, 1, 3).put(1, 4).put(0, 4, 31).put(0, 6).put(2, 2, 12);
        SoundBench x = edges.outcome("zeros behind it, Layer I", 0, writer);
        SoundBench y = edges.outcome("ones behind it, Layer I", 0, writer.put(1, 1, writer.room()));
        edges.is("the same SAMPLE", y.band(0, 0, 11), x.band(0, 0, 11));
        edges.is("the same sum", y.sum(0, 0, 384), x.sum(0, 0, 384));
        writer = narrow(0, 1).put(2, 2).put(0, 6).put(26, 5, 12);
        x = edges.outcome("zeros behind it, Layer II", 0, writer);
        y = edges.outcome("ones behind it, Layer II", 0, writer.put(1, 1, writer.room()));
        edges.is("the same SAMPLE", y.band(0, 0, 35), x.band(0, 0, 35));
        edges.is("the same sum", y.sum(0, 0, 1152), x.sum(0, 0, 1152));
        // No CHECK is of it.
        writer = new FrameWriter(1, 1, 1, 3).checked(0).put(0, 4, 32).coveredHere();
        edges.outcome("ones behind no code at all", 0, writer.put(1, 1, writer.room()));
    }

    private void samples() {
        edges.of("Term IV", "A band's SAMPLE: (2 c + 1 - L) * F / L, cut towards 0, c its code;");
        // Seven steps, F 1664511: sevenths of 6, 4, 2 times it, on both sides of 0; downwards would be one less below it.
        int[] sevenths = {-1426723, -951149, -475574, 0, 475574, 951149, 1426723};
        FrameWriter writer = wide(0, 2).put(2, 2).put(1, 6);
        for (int t = 0; t < 36; t++) {
            writer.put(t % 7, 3);
        }
        SoundBench x = edges.outcome("seven steps", 0, writer);
        for (int t = 0; t < 36; t++) {
            edges.is("code " + t % 7 + " of 7", x.band(0, 0, t), sevenths[t % 7]);
        }
        // The most steps: the product is far beyond the ints.
        writer = wide(0, 15).put(2, 2).put(0, 6).put(0, 16).put(32766, 16).put(32767, 16).put(32768, 16).put(65534, 16);
        x = edges.outcome("65535 steps", 0, writer);
        int[] ends = {-2097119, -64, 0, 64, 2097119};
        for (int t = 0; t < 5; t++) {
            edges.is("row " + t + " of 65535 steps", x.band(0, 0, t), ends[t]);
        }
        // Layer I, the same at its most steps and its fewest.
        x = edges.outcome("32767 steps", 0, new FrameWriter(1, 14, 1, 3).put(14, 4).put(0, 4, 31).put(0, 6).put(0, 15)
                .put(16383, 15).put(32766, 15));
        edges.is("the least of 32767", x.band(0, 0, 0), -2097087);
        edges.is("the middle of 32767", x.band(0, 0, 1), 0);
        edges.is("the greatest of 32767", x.band(0, 0, 2), 2097087);
    }

    private void sizes() {
        edges.of("Term IV", "F: of factor f the number 2097152, 1664511, 1321123 by the remainder of f by 3, shifted by f / 3 to the right.");
        int[][] known = {
            {0, 2097152}, {1, 1664511}, {2, 1321123}, {3, 1048576}, {4, 832255}, {5, 660561}, {57, 4}, {58, 3}, {59, 2}, {60, 2},
            {61, 1}, {62, 1},
        };
        for (int[] k : known) {
            long size = k[1];
            SoundBench x = edges.outcome("Layer I, factor " + k[0], 0,
                    new FrameWriter(1, 14, 1, 3).put(1, 4).put(0, 4, 31).put(k[0], 6).put(2, 2));
            edges.is("Layer I, factor " + k[0] + ", code 2 of 3", x.band(0, 0, 0), 2 * size / 3);
            edges.is("Layer I, factor " + k[0] + ", code 0 of 3", x.band(0, 0, 1), -(2 * size / 3));
            x = edges.outcome("Layer II, factor " + k[0], 0, wide(0, 15).put(2, 2).put(k[0], 6).put(65534, 16));
            edges.is("Layer II, factor " + k[0] + ", code 65534 of 65535", x.band(0, 0, 0), 65534 * size / 65535);
            edges.is("Layer II, factor " + k[0] + ", code 0 of 65535", x.band(0, 0, 1), -(65534 * size / 65535));
        }
    }

    private void withoutAllocation() {
        edges.of("Term IV", "Without an allocation: 0.");
        SoundBench x = edges.outcome("band 0 alone", 0, narrow(0, 1).put(2, 2).put(0, 6));
        for (int band = 0; band < 32; band++) {
            // Behind band 7 none is told.
            edges.is("band(0, " + band + ", 0)", x.band(0, band, 0), band == 0 ? -1398101 : 0);
            edges.is("steps(0, " + band + ")", x.steps(0, band), band == 0 ? 3 : 0);
        }
        // Nothing stays of a FRAME whose bands had one, and v has none of it but in its older rows.
        x = Edges.decoded(Sounds.ofLayerOne(0), new FrameWriter(1, 1, 1, 3).bytes());
        edges.is("the FRAME before had one", x.band(0, 0, 0), 0);
        edges.is("v(0)", x.memory(0, 0), 0);
        edges.is("v(767)", x.memory(0, 767), 0);
    }
}
