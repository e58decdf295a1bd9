/** Terms II and IV, promises 6 and 8 to 10 for Layer II: tables, CHECK, SELECTIONS, factors, codes. */
public final class LayerTwoTest {
    private static final Due DUE = new Due("LayerTwoTest");
    private static final int[][] FIRST = LayerTwoTables.FIRST;
    private static final int[][] SECOND = LayerTwoTables.SECOND;

    public static void main(String[] args) {
        // Rate, sampling of one CHANNEL: 27 of the first (by rate, and by sampling), 30 of it, 8 and 12 of the second.
        everyAllocation(5, 0, 27, FIRST);
        everyAllocation(10, 1, 27, FIRST);
        everyAllocation(10, 0, 30, FIRST);
        everyAllocation(10, 2, 30, FIRST);
        everyAllocation(2, 0, 8, SECOND);
        everyAllocation(2, 1, 8, SECOND);
        everyAllocation(2, 2, 12, SECOND);
        everySelection();
        groupedCodes();
        singleCodes();
        stereoOrder();
        jointOrder();
        checks();
        endOfFrame();
        thirds();
        bandsNotTold();
        DUE.close();
    }

    private static SoundBench decoded(byte[]... parts) {
        SoundBench x = Tapes.of(parts);
        x.decode();
        return x;
    }

    private static void outcome(String what, int want, byte[] bytes) {
        SoundBench x = decoded(bytes);
        DUE.is(what + ": FRAMES", x.count(2), 1);
        DUE.is(what + ": OUTCOME", x.frame(0, 0), want);
        DUE.is(what + ": PCM", x.frame(0, 9), want == 0 ? 1152 : 0);
        DUE.is(what + ": place", x.count(1), bytes.length);
    }

    private static void everyAllocation(int rate, int sampling, int bands, int[][] table) {
        for (int band = 0; band < bands; band++) {
            int[] row = LayerTwoTables.rowOf(table, band);
            DUE.is("a table's row is whole", row.length - 2, (1 << row[1]) - 1);
            for (int a = 1; a < 1 << row[1]; a++) {
                FrameWriter writer = new FrameWriter(2, rate, sampling, 3);
                LayerTwoTables.allotted(writer, bands, table, band, a).put(2, 2).put(17, 6);
                int l = LayerTwoTables.stepsOf(table, band, a);
                String name = "rate " + rate + ", sampling " + sampling + ", band " + band + ", allocation " + a;
                // Codes of the second step, as far as the FRAME has room for any.
                if (l == 3 || l == 5 || l == 9) {
                    writer.put(1 + l + l * l, l == 3 ? 5 : l == 5 ? 7 : 10, 12);
                } else {
                    writer.put(1, Integer.bitCount(l), 36);
                }
                SoundBench x = decoded(writer.bytes());
                if (writer.room() < 0) {
                    DUE.is(name + ": too long", x.frame(0, 0), 2);
                    continue;
                }
                DUE.is(name + ": steps", x.steps(0, band), l);
                DUE.is(name + ": factor", x.factor(0, band, 2), 17);
                DUE.is(name + ": sample", x.band(0, band, 35), (3 - l) * (long) (1321123 >> 5) / l);
            }
        }
    }

    private static void everySelection() {
        int[][] thirds = {{1, 2, 3}, {1, 1, 2}, {1, 1, 1}, {1, 2, 2}};
        int[] counts = {3, 2, 1, 2};
        for (int selection = 0; selection < 4; selection++) {
            FrameWriter writer = new FrameWriter(2, 2, 1, 3).put(3, 4).put(0, 4).put(0, 3, 6).put(selection, 2);
            for (int i = 1; i <= counts[selection]; i++) {
                writer.put(i, 6);
            }
            SoundBench x = decoded(writer.put(728, 10, 12).bytes());
            long[] sizes = {0, 1664511, 1321123, 2097152 >> 1};
            for (int third = 0; third < 3; third++) {
                int f = thirds[selection][third];
                DUE.is("SELECTION " + selection + ", third " + third, x.factor(0, 0, third), f);
                for (int t = 12 * third; t < 12 * third + 12; t++) {
                    DUE.is("SELECTION " + selection + ", row " + t, x.band(0, 0, t), 8 * sizes[f] / 9);
                }
            }
            DUE.is("row 36", x.band(0, 0, 36), 0);
            for (int wrong = 0; wrong < counts[selection]; wrong++) {
                writer = new FrameWriter(2, 2, 1, 3).put(3, 4).put(0, 4).put(0, 3, 6).put(selection, 2);
                for (int i = 0; i < counts[selection]; i++) {
                    writer.put(i == wrong ? 63 : 62, 6);
                }
                outcome("factor 63 of SELECTION " + selection, 2, writer.put(0, 10, 12).bytes());
            }
        }
    }

    private static void groupedCodes() {
        // Allocations 1, 2, 3 of the second table's first band: 3, 5, 9 steps.
        int[][] kinds = {{1, 3, 5}, {2, 5, 7}, {3, 9, 10}};
        for (int[] kind : kinds) {
            int l = kind[1];
            int all = l * l * l;
            for (int from = 0; from < 1 << kind[2]; from += 12) {
                FrameWriter writer = new FrameWriter(2, 2, 1, 3).put(0, 4).put(kind[0], 4).put(0, 3, 6).put(2, 2)
                        .put(0, 6);
                for (int code = from; code < from + 12; code++) {
                    writer.put(Math.min(code, all - 1), kind[2]);
                }
                SoundBench x = decoded(writer.bytes());
                DUE.is("steps", x.steps(0, 1), l);
                for (int t = 0; t < 36; t++) {
                    int code = Math.min(from + t / 3, all - 1);
                    int digit = t % 3 == 0 ? code % l : t % 3 == 1 ? code / l % l : code / (l * l);
                    DUE.is("code " + code + " of " + l + ", sample " + t % 3, x.band(0, 1, t),
                            (2 * digit + 1 - l) * 2097152L / l);
                }
            }
            for (int code = all - 1; code < 1 << kind[2]; code++) {
                FrameWriter writer = new FrameWriter(2, 2, 1, 3).put(kind[0], 4).put(0, 4).put(0, 3, 6).put(2, 2)
                        .put(0, 6).put(0, kind[2], 11).put(code, kind[2]);
                outcome("code " + code + " of " + l, code < all ? 0 : 2, writer.bytes());
            }
        }
    }

    private static void singleCodes() {
        // Of seven steps: three codes of three bits, in band 0 of the first table.
        for (int at = 0; at < 36; at++) {
            FrameWriter writer = LayerTwoTables.allotted(new FrameWriter(2, 5, 0, 3), 27, FIRST, 0, 2).put(2, 2).put(3, 6);
            outcome("code 7 of 7 in row " + at, 2, writer.put(1, 3, at).put(7, 3).bytes());
        }
        FrameWriter writer = LayerTwoTables.allotted(new FrameWriter(2, 5, 0, 3), 27, FIRST, 0, 2).put(2, 2).put(3, 6);
        for (int t = 0; t < 36; t++) {
            writer.put(t % 7, 3);
        }
        SoundBench x = decoded(writer.bytes());
        for (int t = 0; t < 36; t++) {
            DUE.is("row " + t + " of 7 steps", x.band(0, 0, t), (2 * (t % 7) - 6) * 1048576L / 7);
        }
        // Of 65535 steps: the least, the greatest below L, and L.
        for (int last : new int[] {65534, 65535}) {
            writer = LayerTwoTables.allotted(new FrameWriter(2, 10, 0, 3), 30, FIRST, 29, 3).put(2, 2).put(0, 6);
            outcome("code " + last + " of 65535", last - 65534 == 0 ? 0 : 2, writer.put(0, 16, 35).put(last, 16).bytes());
        }
        writer = LayerTwoTables.allotted(new FrameWriter(2, 10, 0, 3), 30, FIRST, 29, 3).put(2, 2).put(0, 6);
        x = decoded(writer.put(0, 16, 35).put(65534, 16).bytes());
        DUE.is("the least of 65535", x.band(0, 29, 0), -65534 * 2097152L / 65535);
        DUE.is("the greatest of 65535", x.band(0, 29, 35), 65534 * 2097152L / 65535);
    }

    private static void stereoOrder() {
        // 96 kbit/s of two, 48000: 8 bands. Band 0: both; band 2: channel 1 alone; band 7: channel 0 alone.
        FrameWriter writer = new FrameWriter(2, 6, 1, 0).put(1, 4).put(4, 4).put(0, 4, 2).put(0, 3).put(2, 3)
                .put(0, 3, 8).put(1, 3).put(0, 3);
        writer.put(2, 2).put(1, 2).put(2, 2).put(3, 2);
        writer.put(10, 6).put(11, 6).put(12, 6).put(13, 6).put(14, 6).put(15, 6);
        for (int g = 0; g < 12; g++) {
            writer.put(g, 5).put(g, 4).put(g + 1, 4).put(g + 2, 4).put(g + 60, 7).put(26 - g, 5);
        }
        SoundBench x = decoded(writer.bytes());
        DUE.is("steps of 0, 0", x.steps(0, 0), 3);
        DUE.is("steps of 1, 0", x.steps(1, 0), 15);
        DUE.is("steps of 0, 2", x.steps(0, 2), 0);
        DUE.is("steps of 1, 2", x.steps(1, 2), 5);
        DUE.is("steps of 0, 7", x.steps(0, 7), 3);
        DUE.is("steps of 1, 7", x.steps(1, 7), 0);
        int[][] factors = {{0, 0, 10, 10, 10}, {1, 0, 11, 11, 12}, {1, 2, 13, 13, 13}, {0, 7, 14, 15, 15}};
        for (int[] f : factors) {
            for (int third = 0; third < 3; third++) {
                DUE.is("factor(" + f[0] + ", " + f[1] + ", " + third + ")", x.factor(f[0], f[1], third), f[2 + third]);
            }
        }
        for (int g = 0; g < 12; g++) {
            DUE.is("0, 0 at " + g, x.band(0, 0, 3 * g), (2 * (g % 3) - 2) * (1664511 >> 3) / 3);
            int size = g < 8 ? 1321123 >> 3 : 2097152 >> 4;
            DUE.is("1, 0 at " + g, x.band(1, 0, 3 * g + 2), (2 * (g + 2) - 14) * size / 15);
            DUE.is("1, 2 at " + g, x.band(1, 2, 3 * g + 1), (2 * ((g + 60) / 5 % 5) - 4) * (1664511 >> 4) / 5);
            size = g < 4 ? 1321123 >> 4 : 2097152 >> 5;
            DUE.is("0, 7 at " + g, x.band(0, 7, 3 * g + 2), (2 * ((26 - g) / 9) - 2) * size / 3);
        }
        DUE.is("PCM of 0", x.count(4), 1152);
        DUE.is("PCM of 1", x.count(5), 1152);
    }

    private static void jointOrder() {
        // As above, MODE 1, EXTENSION 0: BOUND 4. Band 3: both apart; bands 4 and 7: as one.
        FrameWriter writer = new FrameWriter(2, 6, 1, 1).put(0, 4, 4).put(0, 3, 2).put(1, 3).put(2, 3).put(4, 3)
                .put(0, 3, 2).put(1, 3);
        // SELECTIONS of band 3, of 4 (each its own), of 7.
        writer.put(2, 2).put(2, 2).put(2, 2).put(0, 2).put(2, 2).put(2, 2);
        writer.put(1, 6).put(2, 6).put(3, 6).put(4, 6).put(5, 6).put(6, 6).put(7, 6).put(8, 6);
        for (int g = 0; g < 12; g++) {
            writer.put(26, 5).put(124, 7).put(g, 4).put(g + 1, 4).put(g + 2, 4).put(2 * g, 5);
        }
        SoundBench x = decoded(writer.bytes());
        DUE.is("BOUND", x.frame(0, 8), 4);
        int[][] want = {{0, 3, 3, 1, 1, 1}, {1, 3, 5, 2, 2, 2}, {0, 4, 15, 3, 3, 3}, {1, 4, 15, 4, 5, 6},
            {0, 7, 3, 7, 7, 7}, {1, 7, 3, 8, 8, 8}};
        for (int[] w : want) {
            DUE.is("steps(" + w[0] + ", " + w[1] + ")", x.steps(w[0], w[1]), w[2]);
            for (int third = 0; third < 3; third++) {
                DUE.is("factor(" + w[0] + ", " + w[1] + ", " + third + ")", x.factor(w[0], w[1], third), w[3 + third]);
            }
        }
        int[] ofThirds = {1664511 >> 1, 1321123 >> 1, 2097152 >> 2};
        for (int g = 0; g < 12; g++) {
            DUE.is("0, 3 at " + g, x.band(0, 3, 3 * g), 2L * 1664511 / 3);
            DUE.is("1, 3 at " + g, x.band(1, 3, 3 * g), 4L * 1321123 / 5);
            for (int i = 0; i < 3; i++) {
                long twice = 2 * (g + i) - 14;
                DUE.is("0, 4 at " + g, x.band(0, 4, 3 * g + i), twice * (2097152 >> 1) / 15);
                DUE.is("1, 4 at " + g, x.band(1, 4, 3 * g + i), twice * ofThirds[g / 4] / 15);
            }
            DUE.is("0, 7 at " + g, x.band(0, 7, 3 * g), (2 * (2 * g % 3) - 2) * (1664511L >> 2) / 3);
            DUE.is("1, 7 at " + g, x.band(1, 7, 3 * g), (2 * (2 * g % 3) - 2) * (1321123L >> 2) / 3);
        }
    }

    private static FrameWriter checkedWriter(int flaw, int selection) {
        return new FrameWriter(2, 2, 1, 3).checked(flaw).put(1, 4).put(0, 4).put(0, 3, 6).put(selection, 2)
                .coveredHere();
    }

    private static void checks() {
        outcome("CHECK right", 0, checkedWriter(0, 2).bytes());
        for (int bit = 0; bit < 16; bit++) {
            outcome("CHECK wrong in bit " + bit, 1, checkedWriter(1 << bit, 2).bytes());
        }
        // 26 bits of allocations, 2 of a SELECTION.
        for (int bit = 32; bit < 48 + 28 + 40; bit++) {
            byte[] bytes = checkedWriter(0, 2).bytes();
            bytes[bit / 8] ^= (byte) (128 >> bit % 8);
            boolean isWrong = decoded(bytes).frame(0, 0) == 1;
            DUE.holds("bit " + bit + " changed: CHECK wrong is " + isWrong, isWrong == (bit < 48 + 28));
        }
        outcome("CHECK wrong ahead of a BAD factor", 1, checkedWriter(1, 2).put(63, 6).bytes());
        outcome("CHECK right, factor BAD", 2, checkedWriter(0, 2).put(63, 6).bytes());
        outcome("CHECK right, code BAD", 2, checkedWriter(0, 2).put(0, 6).put(27, 5).bytes());
        // Two CHANNELS of 8 bands with a BOUND of 4: 4 * 4 + 4 * 3 bits below it, 4 * 3 from it on.
        FrameWriter joint = new FrameWriter(2, 6, 1, 1).checked(0).put(0, 4, 4).put(0, 3, 4).put(0, 3, 4);
        outcome("CHECK with a BOUND", 0, joint.coveredHere().bytes());
        joint = new FrameWriter(2, 6, 1, 1).checked(0).put(0, 4, 4).put(0, 3, 4).put(0, 3, 5);
        outcome("CHECK of too much", 1, joint.coveredHere().bytes());
    }

    private static void endOfFrame() {
        // 96 bytes, 768 bits: 32, allocations 4 + 4 + 6 * 3, SELECTION 2, factor 6: 702 left.
        FrameWriter writer = new FrameWriter(2, 1, 1, 3).put(15, 4).put(0, 4).put(0, 3, 6).put(2, 2).put(0, 6);
        outcome("36 codes of 15 bits", 0, writer.bytes());
        // Two bands: 2 * 2 and 2 * 6 bits leave 694; 36 of 11 and 8 bits take 684, of 11 and 9 bits 720.
        writer = new FrameWriter(2, 1, 1, 3).put(11, 4).put(8, 4).put(0, 3, 6).put(2, 2, 2);
        outcome("codes of 11 and 8 bits", 0, writer.bytes());
        writer = new FrameWriter(2, 1, 1, 3).put(11, 4).put(9, 4).put(0, 3, 6).put(2, 2, 2);
        outcome("codes of 11 and 9 bits", 2, writer.bytes());
        // Up to the last bit: 710 behind the allocations are 4 SELECTIONS, 5 factors, 12 times 36 + 10 + 5 + 5.
        for (int selection = 0; selection < 2; selection++) {
            writer = new FrameWriter(2, 1, 1, 3).put(12, 4).put(3, 4).put(1, 3, 2).put(0, 3, 4);
            outcome(5 + 1 - selection + " factors", selection == 1 ? 0 : 2, writer.put(selection, 2).put(2, 2, 3).bytes());
        }
        // What stands behind the last code counts nothing.
        writer = new FrameWriter(2, 1, 1, 3).put(11, 4).put(8, 4).put(0, 3, 6).put(2, 2, 2).put(0, 6, 2).put(0, 19, 36);
        outcome("ones behind the last code", 0, writer.put(1, 1, writer.room()).bytes());
    }

    private static void thirds() {
        SoundBench x = decoded(new FrameWriter(2, 2, 1, 3).put(1, 4).put(0, 4).put(0, 3, 6).put(0, 2).put(5, 6)
                .put(6, 6).put(7, 6).bytes());
        DUE.is("third -1", x.factor(0, 0, -1), -1);
        DUE.is("third 0", x.factor(0, 0, 0), 5);
        DUE.is("third 1", x.factor(0, 0, 1), 6);
        DUE.is("third 2", x.factor(0, 0, 2), 7);
        DUE.is("third 3", x.factor(0, 0, 3), -1);
        DUE.is("row -1", x.band(0, 0, -1), 0);
        DUE.is("row 11", x.band(0, 0, 11), -2L * (1321123 >> 1) / 3);
        DUE.is("row 12", x.band(0, 0, 12), -2L * (2097152 >> 2) / 3);
        DUE.is("row 35", x.band(0, 0, 35), -2L * (1664511 >> 2) / 3);
        DUE.is("row 36", x.band(0, 0, 36), 0);
        // Of two CHANNELS: no row of the one behind the last row of the other.
        x = decoded(new FrameWriter(2, 6, 1, 0).put(1, 4, 2).bytes());
        DUE.is("row 0 of channel 1", x.band(1, 0, 0), -2L * 2097152 / 3);
        DUE.is("row 36 of channel 0", x.band(0, 0, 36), 0);
        DUE.is("row 36 of channel 1", x.band(1, 0, 36), 0);
        // Behind it a FRAME of Layer I has twelve rows alone.
        x = decoded(new FrameWriter(2, 2, 1, 3).put(1, 4).bytes(), Sounds.ofLayerOne(0));
        DUE.is("row 12 of Layer I", x.band(0, 0, 12), 0);
        DUE.is("PCM of both", x.count(4), 1152 + 384);
    }

    private static void bandsNotTold() {
        SoundBench x = decoded(new FrameWriter(2, 2, 1, 3).put(1, 4).bytes());
        for (int band = 8; band < 32; band++) {
            DUE.is("steps of band " + band + " of 8 told", x.steps(0, band), 0);
            DUE.is("factor of band " + band, x.factor(0, band, 0), -1);
            DUE.is("sample of band " + band, x.band(0, band, 0), 0);
        }
        DUE.is("steps of band 32", x.steps(0, 32), -1);
    }
}
