import java.io.IOException;
import java.nio.file.Files;
import java.nio.file.Path;
import java.util.Set;
import java.util.TreeSet;
import java.util.regex.Matcher;
import java.util.regex.Pattern;

/** Those rules of LANGUAGE.md that can be seen in the text of the class. */
public final class RulesTest {
    private static final Due DUE = new Due("RulesTest");
    private static final String[] REFUSED = {
        "throw", "throws", "try", "catch", "synchronized", "assert", "package", "native", "volatile", "transient",
        "protected", "equals", "hashCode", "toString", "double", "float", "Random", "Thread", "File",
        "nanoTime", "currentTimeMillis", "Object", "HashMap", "Map", "Set", "Optional", "Stream", "goto",
    };
    private static final Set<String> IMPORTS = Set.of("java.util.ArrayList", "java.util.Arrays", "java.util.List");

    public static void main(String[] args) throws IOException {
        String path = System.getProperty("soundbench.source", "src/main/java/SoundBench.java");
        String source = Files.readString(Path.of(path));
        String code = withoutComments(source);
        for (String word : REFUSED) {
            DUE.holds("no " + word, !Pattern.compile("\\b" + word + "\\b").matcher(code).find());
        }
        for (String mark : new String[] {"->", "::", "Exact(", "static {", "while (true)", "for (;;)"}) {
            DUE.holds("no " + mark, !code.contains(mark));
        }
        Matcher imports = Pattern.compile("import ([\\w.*]+);").matcher(code);
        while (imports.find()) {
            DUE.holds("import of " + imports.group(1), IMPORTS.contains(imports.group(1)));
        }
        privateNames(code);
        methodLengths(code);
        DUE.holds("at most twelve classes", count(code, "\\bclass \\w+") <= 12);
        DUE.close();
    }

    private static String withoutComments(String source) {
        return source.replaceAll("(?s)/\\*.*?\\*/", "").replaceAll("//[^\\n]*", "");
    }

    private static int count(String code, String pattern) {
        Matcher matcher = Pattern.compile(pattern).matcher(code);
        int found = 0;
        while (matcher.find()) {
            found++;
        }
        return found;
    }

    /** No method inside bears the name of a public one. */
    private static void privateNames(String code) {
        Set<String> open = new TreeSet<>();
        Matcher matcher = Pattern.compile("public \\w+ (\\w+)\\(").matcher(code);
        while (matcher.find()) {
            open.add(matcher.group(1));
        }
        DUE.is("public methods", open.size(), 13);
        matcher = Pattern.compile("(?m)^ +(?!public|return|new|else)(?:private |static |final )*[\\w\\[\\]]+ (\\w+)\\([^;{]*\\) \\{").matcher(code);
        while (matcher.find()) {
            DUE.holds("no other method is called " + matcher.group(1), !open.contains(matcher.group(1)));
        }
    }

    private static void methodLengths(String code) {
        String[] lines = code.split("\n");
        for (int i = 0; i < lines.length; i++) {
            if (!lines[i].matches(" +[\\w ]*[\\w\\]]+ ?\\w+\\([^;]*\\) \\{") || lines[i].matches(" +(if|for|while|switch|\\}).*")) {
                continue;
            }
            String closing = lines[i].replaceAll("\\S.*", "") + "}";
            int end = i;
            while (end < lines.length && !lines[end].equals(closing)) {
                end++;
            }
            DUE.holds("at most sixty lines:" + lines[i], end - i <= 60);
            DUE.holds("at most seven parameters:" + lines[i], lines[i].split(",").length <= 7);
        }
    }
}
