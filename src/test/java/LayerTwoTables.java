/** The tables of Term IV: what allocations of Layer II are, by band. */
final class LayerTwoTables {
    static final int[] STEPS = {
        3, 5, 7, 9, 15, 31, 63, 127, 255, 511, 1023, 2047, 4095, 8191, 16383, 32767, 65535
    };
    // Each row: its last band, the bits of its allocations, the numbers of its STEPS.
    static final int[][] FIRST = {
        {2, 4, 0, 2, 4, 5, 6, 7, 8, 9, 10, 11, 12, 13, 14, 15, 16},
        {10, 4, 0, 1, 2, 3, 4, 5, 6, 7, 8, 9, 10, 11, 12, 13, 16},
        {22, 3, 0, 1, 2, 3, 4, 5, 16},
        {29, 2, 0, 1, 16},
    };
    static final int[][] SECOND = {
        {1, 4, 0, 1, 3, 4, 5, 6, 7, 8, 9, 10, 11, 12, 13, 14, 15},
        {11, 3, 0, 1, 3, 4, 5, 6, 7},
    };

    private LayerTwoTables() {
    }

    static int[] rowOf(int[][] table, int band) {
        for (int[] row : table) {
            if (band <= row[0]) {
                return row;
            }
        }
        throw new IllegalStateException("band " + band);
    }

    /** L of an allocation from 1 on. */
    static int stepsOf(int[][] table, int band, int allocation) {
        return STEPS[rowOf(table, band)[1 + allocation]];
    }

    /** Allocations of one CHANNEL: 0, but for one band. */
    static FrameWriter allotted(FrameWriter writer, int bands, int[][] table, int band, int allocation) {
        for (int b = 0; b < bands; b++) {
            writer.put(b == band ? allocation : 0, rowOf(table, b)[1]);
        }
        return writer;
    }

    /** The bits of the one code of three samples; 0, if each sample has its own. */
    static int groupBits(int l) {
        return l == 3 ? 5 : l == 5 ? 7 : l == 9 ? 10 : 0;
    }
}
