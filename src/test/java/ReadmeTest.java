import java.io.IOException;
import java.lang.reflect.Method;
import java.nio.file.DirectoryStream;
import java.nio.file.Files;
import java.nio.file.Path;
import java.util.Set;
import java.util.TreeSet;
import java.util.regex.Matcher;
import java.util.regex.Pattern;

/** README.md names each call and each test, and its example answers as it says. */
public final class ReadmeTest {
    private static final Pattern FACE = Pattern.compile("(?m)^    public (?:int|long) (\\w+\\([^)]*\\)) \\{");
    private static final Pattern CALL_ROW = Pattern.compile("(?m)^\\| `(\\w+\\([^)]*\\))` \\|");
    private static final Pattern TEST_ROW = Pattern.compile("(?m)^\\| (\\w+Test) \\|");
    private static final Pattern TEXT_LINE = Pattern.compile("for \\(char c : \"([^\"]*)\".toCharArray\\(\\)\\) x.type\\((\\d), c\\);");
    private static final Pattern CALL_LINE = Pattern.compile("x\\.(\\w+)\\(([^)]*)\\); +// (-?\\d+)(:.*)?");

    private ReadmeTest() {
    }

    public static void main(String[] args) throws IOException, ReflectiveOperationException {
        String readme = Files.readString(Path.of("README.md"));
        same("calls", found(CALL_ROW, readme), face());
        same("tests", found(TEST_ROW, readme), tests());
        example(readme);
        Check.end("ReadmeTest");
    }

    private static Set<String> found(Pattern pattern, String text) {
        Set<String> all = new TreeSet<>();
        Matcher m = pattern.matcher(text);
        while (m.find()) {
            Check.due(m.group(1) + " stands there once more", all.add(m.group(1)) ? 0 : 1, 0);
        }
        return all;
    }

    private static Set<String> face() throws IOException {
        String source = Files.readString(Path.of("src/main/java/SecretLots.java"));
        Set<String> all = new TreeSet<>();
        for (String call : found(FACE, source)) {
            all.add(call.replace("int ", ""));
        }
        return all;
    }

    private static Set<String> tests() throws IOException {
        Set<String> all = new TreeSet<>();
        try (DirectoryStream<Path> files = Files.newDirectoryStream(Path.of("src/test/java"), "*Test.java")) {
            for (Path file : files) {
                all.add(file.getFileName().toString().replace(".java", ""));
            }
        }
        return all;
    }

    private static void same(String what, Set<String> told, Set<String> due) {
        Set<String> missing = new TreeSet<>(due);
        missing.removeAll(told);
        Check.due(what + " that README.md does not tell " + missing, missing.size(), 0);
        Set<String> strange = new TreeSet<>(told);
        strange.removeAll(due);
        Check.due(what + " that README.md alone tells " + strange, strange.size(), 0);
    }

    private static void example(String readme) throws ReflectiveOperationException {
        int from = readme.indexOf("```java\n");
        int to = readme.indexOf("```\n", from + 8);
        Check.due("an example stands there", from >= 0 && to > from ? 1 : 0, 1);
        SecretLots x = new SecretLots();
        for (String line : readme.substring(from + 8, to).split("\n")) {
            if (!line.isEmpty() && !line.equals("SecretLots x = new SecretLots();")) {
                exampleLine(x, line);
            }
        }
    }

    private static void exampleLine(SecretLots x, String line) throws ReflectiveOperationException {
        Matcher text = TEXT_LINE.matcher(line);
        Matcher call = CALL_LINE.matcher(line);
        if (text.matches()) {
            Check.text(x, Integer.parseInt(text.group(2)), text.group(1));
        } else if (call.matches()) {
            Check.due("README.md: " + line, answer(x, call.group(1), call.group(2).split(", ")), Long.parseLong(call.group(3)));
        } else {
            Check.due("README.md has a line that is not understood: " + line, 1, 0);
        }
    }

    private static long answer(SecretLots x, String name, String[] told) throws ReflectiveOperationException {
        Class<?>[] types = new Class<?>[told.length];
        Object[] numbers = new Object[told.length];
        for (int i = 0; i < told.length; i++) {
            types[i] = int.class;
            numbers[i] = Integer.parseInt(told[i]);
        }
        Method m = SecretLots.class.getMethod(name, types);
        return ((Number) m.invoke(x, numbers)).longValue();
    }
}
