import java.io.ByteArrayOutputStream;

/** Brings bytes onto a TAPE by feed and end. */
final class Tapes {
    private Tapes() {
    }

    static byte[] join(byte[]... parts) {
        ByteArrayOutputStream all = new ByteArrayOutputStream();
        for (byte[] part : parts) {
            all.writeBytes(part);
        }
        return all.toByteArray();
    }

    static byte[] zeros(int count) {
        return new byte[count];
    }

    static SoundBench of(byte[]... parts) {
        SoundBench bench = new SoundBench();
        append(bench, join(parts));
        return bench;
    }

    /** Behind what the TAPE has: feeds by twenties, and cuts off what the last one had too many. */
    static void append(SoundBench bench, byte[] bytes) {
        int had = bench.count(0);
        int want = had + bytes.length;
        for (int i = 0; i < bytes.length; i += 20) {
            int fed = bench.feed(word(bytes, i), word(bytes, i + 4), word(bytes, i + 8), word(bytes, i + 12),
                    word(bytes, i + 16));
            if (fed != had + i + 20) {
                throw new IllegalStateException("feed answered " + fed + " behind " + (had + i) + " bytes");
            }
        }
        if (bench.end(want) != want) {
            throw new IllegalStateException("end(" + want + ")");
        }
    }

    static int word(byte[] bytes, int at) {
        int word = 0;
        for (int i = at; i < at + 4; i++) {
            word = word << 8 | (i < bytes.length ? bytes[i] & 255 : 0);
        }
        return word;
    }
}
