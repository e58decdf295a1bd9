import java.util.Random;

/** FRAMES of any kind, most of them sound, some with one fault or another. */
final class RandomFrames {
    private static final int[] LENGTHS = {
        3, 5, 7, 9, 15, 31, 63, 127, 255, 511, 1023, 2047, 4095, 8191, 16383, 32767, 65535
    };

    private static final int[] EMPHASES = {0, 1, 3};

    private final Random random;
    // What part of the FRAMES has faults, in hundredths.
    private final int faults;
    private int[] facts;
    private int[][] allocations;
    private int[][] steps;
    private int[][] selections;

    RandomFrames(Random random, int faults) {
        this.random = random;
        this.faults = faults;
    }

    byte[] next(int bytesAtMost) {
        for (int tries = 0; tries < 1000; tries++) {
            FrameWriter writer = header();
            facts = Model.factsOf(binary(writer.header()), 0);
            if (facts != null && facts[2] <= bytesAtMost) {
                fill(writer);
                return writer.bytes();
            }
        }
        return new byte[0];
    }

    private FrameWriter header() {
        // Low rates more often than others: so that a TAPE has many FRAMES.
        int rate = 1 + (random.nextBoolean() ? random.nextInt(14) : random.nextInt(4));
        FrameWriter writer = new FrameWriter(1 + random.nextInt(2), rate, random.nextInt(3), random.nextInt(4));
        writer.extension(random.nextInt(4)).emphasis(EMPHASES[random.nextInt(3)]);
        if (random.nextBoolean()) {
            writer.padded();
        }
        if (random.nextBoolean()) {
            writer.checked(faulty() ? 1 << random.nextInt(16) : 0);
        }
        return writer;
    }

    private boolean faulty() {
        return random.nextInt(100) < faults;
    }

    private void fill(FrameWriter writer) {
        allocations = new int[2][32];
        steps = new int[2][32];
        selections = new int[2][32];
        allot(faulty() ? 100000 : writer.room() - spentOnSides());
        putAllocations(writer);
        putSelections(writer);
        writer.coveredHere();
        putFactors(writer);
        for (int granule = 0; granule < 12; granule++) {
            putCodes(writer);
        }
        if (random.nextBoolean()) {
            while (writer.room() > 0) {
                writer.put(random.nextInt(2), 1);
            }
        }
    }

    private int spentOnSides() {
        int spent = 0;
        for (int b = 0; b < facts[10]; b++) {
            spent += told(b) * width(b);
        }
        return spent;
    }

    private int told(int b) {
        return b < facts[8] ? facts[7] : 1;
    }

    private int width(int b) {
        return facts[3] == 1 ? 4 : Model.rowOf(facts[11], b).charAt(0) - '0';
    }

    /** Gives allocations to bands while there is room for them. */
    private void allot(int room) {
        int left = room;
        int goes = random.nextInt(80);
        for (int go = 0; go < goes; go++) {
            int b = random.nextInt(facts[10]);
            int c = random.nextInt(told(b));
            if (allocations[c][b] != 0) {
                continue;
            }
            int a = 1 + random.nextInt((1 << width(b)) - 1);
            if (facts[3] == 1 && a == 15 && !faulty()) {
                a = 14;
            }
            if (random.nextInt(3) > 0) {
                a = Math.min(a, 1 + random.nextInt(3));
            }
            int l = stepsOf(b, a);
            int owners = b < facts[8] ? 1 : facts[7];
            int cost = 20 * owners + 12 * bitsOf(l);
            if (cost > left) {
                continue;
            }
            left -= cost;
            for (int to = c; to < c + owners; to++) {
                allocations[to][b] = a;
                steps[to][b] = l;
                selections[to][b] = random.nextInt(4);
            }
        }
    }

    private int stepsOf(int b, int a) {
        if (facts[3] == 1) {
            return (1 << a + 1) - 1;
        }
        return LENGTHS[Integer.parseInt(Model.rowOf(facts[11], b).substring(3).split(" ")[a - 1])];
    }

    private boolean grouped(int l) {
        return facts[3] == 2 && (l == 3 || l == 5 || l == 9);
    }

    private int groupBits(int l) {
        return l == 3 ? 5 : l == 5 ? 7 : 10;
    }

    private int bitsOf(int l) {
        return grouped(l) ? groupBits(l) : Integer.bitCount(l) * (facts[3] == 1 ? 1 : 3);
    }

    private void putAllocations(FrameWriter writer) {
        for (int b = 0; b < facts[10]; b++) {
            for (int c = 0; c < told(b); c++) {
                writer.put(allocations[c][b], width(b));
            }
        }
    }

    private void putSelections(FrameWriter writer) {
        for (int b = 0; facts[3] == 2 && b < facts[10]; b++) {
            for (int c = 0; c < facts[7]; c++) {
                if (steps[c][b] > 0) {
                    writer.put(selections[c][b], 2);
                }
            }
        }
    }

    private void putFactors(FrameWriter writer) {
        int loudest = random.nextBoolean() ? 0 : random.nextInt(50);
        for (int b = 0; b < facts[10]; b++) {
            for (int c = 0; c < facts[7]; c++) {
                if (steps[c][b] > 0) {
                    int count = facts[3] == 1 || selections[c][b] == 2 ? 1 : selections[c][b] == 0 ? 3 : 2;
                    for (int i = 0; i < count; i++) {
                        int f = loudest + random.nextInt(63 - loudest);
                        writer.put(faulty() && random.nextInt(20) == 0 ? 63 : f, 6);
                    }
                }
            }
        }
    }

    private void putCodes(FrameWriter writer) {
        for (int b = 0; b < facts[10]; b++) {
            for (int c = 0; c < told(b); c++) {
                if (steps[c][b] > 0) {
                    putCode(writer, steps[c][b]);
                }
            }
        }
    }

    private void putCode(FrameWriter writer, int l) {
        boolean wrong = faulty() && random.nextInt(200) == 0;
        if (grouped(l)) {
            writer.put(wrong ? l * l * l : random.nextInt(l * l * l), groupBits(l));
            return;
        }
        for (int i = 0; i < (facts[3] == 1 ? 1 : 3); i++) {
            writer.put(wrong && i == 0 ? l : random.nextInt(l), Integer.bitCount(l));
        }
    }

    private static String binary(int header) {
        return Long.toBinaryString(1L << 32 | header & 0xFFFFFFFFL).substring(1);
    }
}
