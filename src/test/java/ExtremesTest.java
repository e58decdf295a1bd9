import java.util.List;

/** Every call with arguments from one end of the ints to the other, in several states: it answers, and as the Model. */
public final class ExtremesTest {
    private static final int LEAST = Integer.MIN_VALUE;
    private static final int GREATEST = Integer.MAX_VALUE;
    private static final int[] NUMBERS = {
        LEAST, LEAST + 1, LEAST + 2000, -2001, -64, -1, 0, 1, 2, 3, 11, 12, 31, 32, 35, 36, 383, 384, 1023, 1024, 2000, 2001,
        3999, 4000, GREATEST - 2000, GREATEST - 1, GREATEST,
    };
    private static final int CALLS = 512;

    private final Due due;
    private final byte[] tape;
    private final boolean decoded;
    private final boolean cleared;
    private SoundBench bench;
    private Model model;
    private int calls;

    private ExtremesTest(Due due, byte[] tape, boolean decoded, boolean cleared) {
        this.due = due;
        this.tape = tape;
        this.decoded = decoded;
        this.cleared = cleared;
        begin();
    }

    public static void main(String[] args) {
        Due due = new Due("ExtremesTest");
        RandomFrames frames = new RandomFrames(new java.util.Random(77), 0);
        byte[] some = Tapes.join(frames.next(600), Sounds.ofLayerOne(0), frames.next(600), new byte[5]);
        byte[] part = java.util.Arrays.copyOf(new FrameWriter(2, 14, 2, 0).bytes(), 900);
        byte[] full = java.util.Arrays.copyOf(Tapes.join(frames.next(900), frames.next(900)), 4000);
        for (byte[] tape : List.of(new byte[0], some, part, full)) {
            new ExtremesTest(due, tape, false, false).ask();
            new ExtremesTest(due, tape, true, false).ask();
            new ExtremesTest(due, tape, true, true).ask();
        }
        due.close();
    }

    private void begin() {
        bench = new SoundBench();
        model = new Model();
        calls = 0;
        for (int i = 0; i < tape.length; i += 20) {
            int[] words = new int[5];
            for (int w = 0; w < 5; w++) {
                words[w] = Tapes.word(tape, i + 4 * w);
            }
            bench.feed(words[0], words[1], words[2], words[3], words[4]);
            model.feed(words);
            calls++;
        }
        is("end", bench.end(tape.length), model.end(tape.length));
        if (decoded) {
            is("decode", bench.decode(), model.decode());
        }
        if (cleared) {
            is("clear", bench.clear(), model.clear());
        }
    }

    private void ask() {
        for (int a : NUMBERS) {
            is("count(" + a + ")", bench.count(a), model.count(a));
            for (int b : NUMBERS) {
                askTwo(a, b);
                for (int c : NUMBERS) {
                    askThree(a, b, c);
                }
            }
        }
        begin();
        for (int a : NUMBERS) {
            if (calls > CALLS - 40) {
                begin();
            }
            for (int b : NUMBERS) {
                is("set(" + a + ", " + b + ")", bench.set(a, b), model.set(a, b));
            }
            is("feed(" + a + ", ..)", bench.feed(a, -a, ~a, a, a >> 1), model.feed(a, -a, ~a, a, a >> 1));
            is("end(" + a + ")", bench.end(a), model.end(a));
            is("decode()", bench.decode(), model.decode());
            is("count(0)", bench.count(0), model.count(0));
            is("count(1)", bench.count(1), model.count(1));
        }
    }

    private void askTwo(int a, int b) {
        is("frame(" + a + ", " + b + ")", bench.frame(a, b), model.frame(a, b));
        is("steps(" + a + ", " + b + ")", bench.steps(a, b), model.steps(a, b));
        is("pcm(" + a + ", " + b + ")", bench.pcm(a, b), model.pcm(a, b));
        is("memory(" + a + ", " + b + ")", bench.memory(a, b), model.memory(a, b));
    }

    private void askThree(int a, int b, int c) {
        // What is asked changes nothing: a new object goes on where the one before has had its calls.
        if (calls > CALLS - 10) {
            begin();
        }
        String of = "(" + a + ", " + b + ", " + c + ")";
        is("band" + of, bench.band(a, b, c), model.band(a, b, c));
        is("factor" + of, bench.factor(a, b, c), model.factor(a, b, c));
        is("sum" + of, bench.sum(a, b, c), model.sum(a, b, c));
    }

    private void is(String call, int got, int want) {
        calls++;
        due.is(tape.length + " bytes, " + decoded + ", " + cleared + ": " + call, got, want);
    }
}
