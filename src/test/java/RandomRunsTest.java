import java.util.Random;

/** Runs of calls that chance picks (from fixed seeds), each answer against the Model's. */
public final class RandomRunsTest {
    private static final int RUNS = 400;
    private static final int CALLS = 512;

    private final Due due;
    private final int run;
    private final Random random;
    private final RandomFrames frames;
    private final SoundBench bench = new SoundBench();
    private final Model model = new Model();
    private int calls;

    private RandomRunsTest(Due due, int run) {
        this.due = due;
        this.run = run;
        random = new Random(run);
        // Runs without faults as well, for they sound most.
        frames = new RandomFrames(random, new int[] {0, 2, 10, 40}[run % 4]);
    }

    public static void main(String[] args) {
        Due due = new Due("RandomRunsTest");
        int[] outcomes = new int[3];
        int loud = 0;
        for (int run = 0; run < RUNS && due.wrongSoFar() < 40; run++) {
            RandomRunsTest test = new RandomRunsTest(due, run);
            test.goOn();
            // By the Model, for the object has had its calls.
            for (int k = 0; k < test.model.count(2); k++) {
                outcomes[test.model.frame(k, 0)]++;
            }
            for (int i = 0; i < test.model.count(4); i++) {
                loud += Math.abs(test.model.pcm(0, i)) > 100 ? 1 : 0;
            }
        }
        // The runs tell nothing if what they bring is all refused, or silent.
        due.holds("200 and more of each OUTCOME: " + outcomes[0] + ", " + outcomes[1] + ", " + outcomes[2],
                outcomes[0] >= 200 && outcomes[1] >= 200 && outcomes[2] >= 200);
        due.holds("100000 and more loud samples: " + loud, loud >= 100000);
        due.close();
    }

    private void goOn() {
        // What a FRAME may take of feeds, and what is asked at the end, stays within an object's calls.
        while (calls < CALLS - 160) {
            int pick = random.nextInt(100);
            if (pick < 55) {
                appendFrame();
            } else if (pick < 60) {
                feed(random.nextInt(), random.nextInt(), -random.nextInt(70000), random.nextInt(), random.nextInt());
            } else if (pick < 64) {
                askEnd(model.count(0) - random.nextInt(40) + 3);
            } else if (pick < 70) {
                askSet();
            } else if (pick < 71) {
                is("clear()", bench.clear(), model.clear());
            } else if (pick < 85) {
                is("decode()", bench.decode(), model.decode());
            } else {
                ask();
            }
        }
        is("decode()", bench.decode(), model.decode());
        askAllSound();
        while (calls < CALLS) {
            ask();
        }
    }

    private void askAllSound() {
        for (int c = 0; c < 2; c++) {
            for (int i = 0; i < model.count(4 + c); i += 2000) {
                is("sum(" + c + ", " + i + ", " + (i + 2000) + ")", bench.sum(c, i, i + 2000), model.sum(c, i, i + 2000));
            }
        }
    }

    private void appendFrame() {
        byte[] junk = new byte[random.nextInt(4) == 0 ? random.nextInt(9) : 0];
        random.nextBytes(junk);
        byte[] bytes = Tapes.join(junk, frames.next(4000 - model.count(0)));
        int want = model.count(0) + bytes.length;
        for (int i = 0; i < bytes.length; i += 20) {
            feed(Tapes.word(bytes, i), Tapes.word(bytes, i + 4), Tapes.word(bytes, i + 8), Tapes.word(bytes, i + 12),
                    Tapes.word(bytes, i + 16));
        }
        askEnd(want);
    }

    private void feed(int a, int b, int c, int d, int e) {
        is("feed(" + a + ", " + b + ", " + c + ", " + d + ", " + e + ")", bench.feed(a, b, c, d, e),
                model.feed(a, b, c, d, e));
    }

    private void askEnd(int n) {
        is("end(" + n + ")", bench.end(n), model.end(n));
    }

    private void askSet() {
        int i = model.count(1) - 2 + random.nextInt(Math.max(1, model.count(0) - model.count(1) + 4));
        int b = random.nextInt(1000) - 500;
        is("set(" + i + ", " + b + ")", bench.set(i, b), model.set(i, b));
    }

    private int channel() {
        return random.nextInt(20) == 0 ? random.nextInt(5) - 2 : random.nextInt(2);
    }

    private void ask() {
        int c = channel();
        int band = random.nextInt(3) == 0 ? random.nextInt(36) - 2 : random.nextInt(12);
        int i = random.nextInt(Math.max(1, model.count(4 + (c & 1)) + 20)) - 5;
        switch (random.nextInt(8)) {
            case 0:
                int k = random.nextInt(model.count(2) + 2) - 1;
                int what = random.nextInt(12) - 1;
                is("frame(" + k + ", " + what + ")", bench.frame(k, what), model.frame(k, what));
                break;
            case 1:
                int t = random.nextInt(40) - 2;
                is("band(" + c + ", " + band + ", " + t + ")", bench.band(c, band, t), model.band(c, band, t));
                break;
            case 2:
                is("steps(" + c + ", " + band + ")", bench.steps(c, band), model.steps(c, band));
                break;
            case 3:
                int third = random.nextInt(5) - 1;
                is("factor(" + c + ", " + band + ", " + third + ")", bench.factor(c, band, third),
                        model.factor(c, band, third));
                break;
            case 4:
                is("pcm(" + c + ", " + i + ")", bench.pcm(c, i), model.pcm(c, i));
                break;
            case 5:
                int j = i + random.nextInt(2010);
                is("sum(" + c + ", " + i + ", " + j + ")", bench.sum(c, i, j), model.sum(c, i, j));
                break;
            case 6:
                int n = random.nextInt(1030) - 3;
                is("memory(" + c + ", " + n + ")", bench.memory(c, n), model.memory(c, n));
                break;
            default:
                int which = random.nextInt(8) - 1;
                is("count(" + which + ")", bench.count(which), model.count(which));
                break;
        }
    }

    private void is(String call, int got, int want) {
        calls++;
        due.is("run " + run + ", call " + calls + ", " + call, got, want);
    }
}
