import java.io.File;
import java.io.IOException;
import java.lang.reflect.Method;
import java.lang.reflect.Modifier;
import java.nio.file.Files;
import java.nio.file.Path;
import java.util.regex.Matcher;
import java.util.regex.Pattern;

/** README.md tells the truth: its example answers what it says there, and no public method or test is left out. */
public final class ReadmeTest {
    private static final Due DUE = new Due("ReadmeTest");
    private static final Pattern EXAMPLE = Pattern.compile("(?s)```java\\n(.*?)```");
    private static final Pattern CALL = Pattern.compile("bench\\.(\\w+)\\(([^)]*)\\); *// (-?\\d+)(?::.*)?");
    private static final Pattern FACE = Pattern.compile("(?m)^    public (?:int )?(\\w+\\([^)]*\\)) \\{");

    public static void main(String[] args) throws Exception {
        String readme = Files.readString(Path.of("README.md"));
        runExample(readme);
        everyMethodHasItsRow(readme);
        everyTestHasItsRow(readme);
        DUE.close();
    }

    private static void runExample(String readme) throws ReflectiveOperationException {
        Matcher example = EXAMPLE.matcher(readme);
        DUE.holds("README.md has an example", example.find());
        SoundBench bench = new SoundBench();
        int calls = 0;
        for (String line : example.group(1).split("\n")) {
            if (!line.contains("new SoundBench()")) {
                Matcher call = CALL.matcher(line);
                boolean told = call.matches();
                DUE.holds("a call and its answer: " + line, told);
                if (told) {
                    DUE.is(line, answer(bench, call.group(1), call.group(2)), Long.parseLong(call.group(3)));
                    calls++;
                }
            }
        }
        DUE.holds("the example has calls", calls > 0);
    }

    private static int answer(SoundBench bench, String name, String told) throws ReflectiveOperationException {
        String[] numbers = told.isEmpty() ? new String[0] : told.split(", ");
        Object[] arguments = new Object[numbers.length];
        Class<?>[] types = new Class<?>[numbers.length];
        for (int i = 0; i < numbers.length; i++) {
            // As a long first, for 0xFFFF14C0 is beyond what decodes to an int.
            arguments[i] = Long.decode(numbers[i]).intValue();
            types[i] = int.class;
        }
        return (Integer) SoundBench.class.getMethod(name, types).invoke(bench, arguments);
    }

    private static void everyMethodHasItsRow(String readme) throws IOException {
        String path = System.getProperty("soundbench.source", "src/main/java/SoundBench.java");
        Matcher face = FACE.matcher(Files.readString(Path.of(path)));
        int rows = 0;
        while (face.find()) {
            rows++;
            DUE.holds("README.md has a row for " + face.group(1), readme.contains("\n| `" + face.group(1) + "` | "));
        }
        int open = SoundBench.class.getConstructors().length;
        for (Method method : SoundBench.class.getDeclaredMethods()) {
            open += Modifier.isPublic(method.getModifiers()) ? 1 : 0;
        }
        DUE.is("rows of the face", rows, open);
    }

    private static void everyTestHasItsRow(String readme) {
        File[] files = new File("src/test/java").listFiles();
        DUE.holds("tests stand in src/test/java", files != null);
        for (File file : files == null ? new File[0] : files) {
            String name = file.getName().replace(".java", "");
            if (name.endsWith("Test")) {
                DUE.holds("README.md tells of " + name, readme.contains("`" + name + "`"));
            }
        }
    }
}
