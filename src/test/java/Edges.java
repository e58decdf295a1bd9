import java.io.IOException;
import java.nio.file.Files;
import java.nio.file.Path;
import java.util.LinkedHashMap;
import java.util.Map;

/**
 * Asks at the boundaries that the document names: each answer belongs to a sentence, quoted as it stands there.
 * Where the document itself is at hand, every quote is looked up in it, and no sentence may be left over.
 */
final class Edges {
    private static final String ANY_LETTER = "(?s).*[A-Za-z].*";

    private final Due due = new Due("EdgesTest");
    private final Map<String, String> sections = new LinkedHashMap<>();
    // What of each section has not been quoted yet.
    private final Map<String, String> left = new LinkedHashMap<>();
    private String sentence = "";
    private int answers = 1;

    Edges(Path document) throws IOException {
        if (!Files.exists(document)) {
            System.out.println("EdgesTest: no document at " + document + ": its sentences are not looked up");
            return;
        }
        String name = "";
        for (String line : Files.readAllLines(document)) {
            name = sectionAt(line, name);
            if (!name.isEmpty() && !line.startsWith("## ") && !line.startsWith("```")) {
                sections.merge(name, line + " ", String::concat);
            }
        }
        sections.replaceAll((key, text) -> plain(text));
        left.putAll(sections);
    }

    /** The section that a line begins, or that goes on; none for what promises nothing. */
    private static String sectionAt(String line, String before) {
        if (line.startsWith("## ")) {
            boolean promises = line.startsWith("## Promise") || line.equals("## What it is");
            return promises ? line.substring(3).split(":")[0] : "";
        }
        if (line.startsWith("==== ")) {
            return "Term " + line.substring(5).split("\\.")[0];
        }
        return line.startsWith("The constants") ? "The constants" : before;
    }

    private static String plain(String text) {
        return text.replaceAll("==== [IV]+\\. ", "").replaceAll("\\s+", " ").trim();
    }

    /** What is asked from here on is what this sentence asks for. */
    void of(String section, String quoted) {
        endSentence();
        sentence = quoted;
        answers = 0;
        takeAway(section, quoted);
    }

    /** A sentence that names no boundary. */
    void namesNone(String section, String quoted) {
        endSentence();
        takeAway(section, quoted);
    }

    private void takeAway(String section, String quoted) {
        if (sections.isEmpty()) {
            return;
        }
        due.holds(section + " says: " + quoted, sections.getOrDefault(section, "").contains(quoted));
        left.computeIfPresent(section, (key, text) -> text.replace(quoted, " "));
    }

    private void endSentence() {
        due.holds("an answer is asked for: " + sentence, answers > 0);
        answers = 1;
    }

    void is(String call, long got, long want) {
        answers++;
        due.is('"' + sentence + "\": " + call, got, want);
    }

    void holds(String what, boolean held) {
        answers++;
        due.holds('"' + sentence + "\": " + what, held);
    }

    static SoundBench decoded(byte[]... parts) {
        SoundBench x = Tapes.of(parts);
        x.decode();
        return x;
    }

    /** One FRAME on a TAPE of its own, with this OUTCOME. */
    SoundBench outcome(String what, int want, FrameWriter writer) {
        byte[] bytes = writer.bytes();
        SoundBench x = Tapes.of(bytes);
        is(what + ": decode()", x.decode(), 1);
        is(what + ": OUTCOME", x.frame(0, 0), want);
        is(what + ": DECODED", x.count(3), want == 0 ? 1 : 0);
        is(what + ": place", x.count(1), bytes.length);
        is(what + ": PCM", x.count(4), want != 0 ? 0 : x.frame(0, 3) == 1 ? 384 : 1152);
        return x;
    }

    void close() {
        endSentence();
        left.forEach((section, text) -> due.holds("nothing of " + section + " is left over: " + text,
                !text.replaceAll("`int [^`]*`|`SoundBench\\(\\)`", "").matches(ANY_LETTER)));
        due.close();
    }
}
