import java.io.IOException;
import java.nio.file.Files;
import java.nio.file.Path;
import java.util.ArrayList;
import java.util.List;
import java.util.Map;
import java.util.Set;
import java.util.TreeMap;
import java.util.TreeSet;
import java.util.regex.Matcher;
import java.util.regex.Pattern;

/** The rules of LANGUAGE.md that can be seen in the text of the class; FaceTest has the rest of rule 1. */
public final class LanguageTest {
    private static final Pattern METHOD = Pattern.compile(
            "^( +)(?:(?:public|private|static|final) )*(?:int|long|void|boolean) (\\w+)\\(([^)]*)\\) \\{$");
    private static final Pattern CONSTRUCTOR = Pattern.compile("^( +)(?:(?:public|private) )?[A-Z]\\w*\\([^)]*\\) \\{$");
    private static final Pattern CLASS = Pattern.compile("^( *)([a-z ]*)\\b(?:class|record|enum|interface) \\w+.*\\{$");
    private static final Pattern FIELD = Pattern.compile("^ +(?:private |public |final )*[A-Za-z]+(?:\\[\\])* \\w+ = .*;$");
    private static final Pattern CALLED = Pattern.compile("(\\w+)\\(");
    private static final Set<String> LIBRARY = Set.of("Math.abs", "Math.max", "Math.min", "Arrays.fill", "System.arraycopy",
            "Integer.MIN_VALUE", "Long.MIN_VALUE");
    private static final String[] NEVER = {
        "\\bthrows?\\b", "\\btry\\b", "\\bcatch\\b", "\\bfinally\\b", "\\bsynchronized\\b", "\\bassert\\b", "->", "::",
        "Exact\\b", "\\bequals\\b", "\\bhashCode\\b", "\\btoString\\b", "\\bstatic \\{", "\\bpackage\\b",
        "while \\(true\\)", "for \\(;", "; ;", "\\bnew \\w+\\([^)]*\\) \\{", "\\[\\]\\[\\]\\[\\]", "\\bvar\\b", "\\bprotected\\b",
        // Not a rule, but what this test goes by: a block begins at its line's end.
        "\\{ *[^\\s}]"
    };

    private final List<String> lines = new ArrayList<>();
    private final Map<String, List<String>> bodies = new TreeMap<>();
    private final Set<String> face = new TreeSet<>();

    private LanguageTest() {
    }

    public static void main(String[] args) throws IOException {
        LanguageTest test = new LanguageTest();
        String source = Files.readString(Path.of("src/main/java/SecretLots.java"));
        String bare = source.replaceAll("(?s)/\\*.*?\\*/", "").replaceAll("//[^\n]*", "").replaceAll("'.'", "0");
        test.lines.addAll(List.of(bare.split("\n")));
        test.words(bare);
        test.library(bare);
        test.classes();
        test.methods();
        test.depth();
        test.statics();
        test.objects();
        Check.end("LanguageTest");
    }

    /** Rules 2, 3, 6 and 9. */
    private void words(String bare) {
        for (String never : NEVER) {
            Matcher m = Pattern.compile(never).matcher(bare);
            Check.due("'" + never + "' stands in the class", m.find() ? 1 : 0, 0);
        }
        for (char c : bare.toCharArray()) {
            if (c != '\n' && (c < ' ' || c > '~')) {
                Check.due("a sign that is not plain stands in the class", c, ' ');
            }
        }
    }

    /** Rules 4 and 13. */
    private void library(String bare) {
        Matcher imports = Pattern.compile("(?m)^import ([\\w.*]+);").matcher(bare);
        while (imports.find()) {
            Check.due("import of " + imports.group(1), imports.group(1).equals("java.util.Arrays") ? 1 : 0, 1);
        }
        Matcher uses = Pattern.compile("(?<![.\\w])([A-Z]\\w*[a-z]\\w*\\.\\w+)").matcher(bare);
        while (uses.find()) {
            Check.due("use of " + uses.group(1), LIBRARY.contains(uses.group(1)) ? 1 : 0, 1);
        }
    }

    /** Rules 1, 2 and 11. */
    private void classes() {
        int all = 0;
        for (String line : lines) {
            Matcher m = CLASS.matcher(line);
            if (m.matches()) {
                all++;
                boolean isOuter = m.group(1).isEmpty();
                String due = isOuter ? "public final" : "static";
                Check.due(line.trim() + " is " + due, m.group(2).contains(due) ? 1 : 0, 1);
                Check.due(line.trim() + " stands in the one class", m.group(1).length(), isOuter ? 0 : 4);
            }
        }
        Check.due("the file has " + all + " classes", all >= 1 && all <= 12 ? 1 : 0, 1);
    }

    /** Rules 1 and 11. */
    private void methods() {
        for (int i = 0; i < lines.size(); i++) {
            Matcher m = METHOD.matcher(lines.get(i));
            if (m.matches()) {
                int end = lines.subList(i, lines.size()).indexOf(m.group(1) + "}");
                Check.due(m.group(2) + " has an end within 60 lines", end > 0 && end < 60 ? 1 : 0, 1);
                Check.due(m.group(2) + " has seven parameters at most", m.group(3).split(",").length <= 7 ? 1 : 0, 1);
                if (lines.get(i).contains("public ")) {
                    face.add(m.group(2));
                }
                bodies.computeIfAbsent(m.group(2), n -> new ArrayList<>()).addAll(lines.subList(i + 1, i + Math.max(end, 1)));
            }
        }
        Check.due("public methods", face.size(), 37);
        for (String line : lines) {
            Matcher m = METHOD.matcher(line);
            boolean isHidden = m.matches() && !line.contains("public ");
            Check.due(line.trim() + " has a public name", isHidden && face.contains(m.group(2)) ? 1 : 0, 0);
        }
    }

    /** Rules 8 and 11: no method calls itself, also by way of others, and calls go eight deep at most. */
    private void depth() {
        for (String name : face) {
            int deep = depth(name, 1);
            Check.due(name + " goes " + deep + " calls deep", deep <= 8 ? 1 : 0, 1);
        }
    }

    private int depth(String name, int at) {
        int most = at;
        for (String line : bodies.getOrDefault(name, List.of())) {
            Matcher m = CALLED.matcher(line);
            while (m.find() && at < 30) {
                boolean isCall = bodies.containsKey(m.group(1)) || Pattern.matches("abs|max|min|fill|arraycopy", m.group(1));
                most = Math.max(most, isCall ? depth(m.group(1), at + 1) : at);
            }
        }
        return most;
    }

    /** Rules 5 and 11. */
    private void statics() {
        Map<String, Integer> fields = new TreeMap<>();
        String in = "";
        for (String line : lines) {
            if (CLASS.matcher(line).matches()) {
                in = line.trim();
            }
            boolean isStaticField = line.contains("static ") && line.endsWith(";") && !line.contains("import ");
            if (isStaticField) {
                boolean isConstant = Pattern.matches(" +(public|private) static final (int|long) [A-Z_]+ = .*;", line);
                Check.due(line.trim() + " is a constant", isConstant ? 1 : 0, 1);
            } else if (FIELD.matcher(line).matches() && line.indexOf(line.trim()) == (in.startsWith("public") ? 4 : 8)) {
                fields.merge(in, 1, Integer::sum);
            }
        }
        for (Map.Entry<String, Integer> e : fields.entrySet()) {
            Check.due(e.getKey() + " has " + e.getValue() + " fields", e.getValue() <= 20 ? 1 : 0, 1);
        }
    }

    /** All calls share one room: objects are made by constructors alone, so that no call makes one. */
    private void objects() {
        for (Map.Entry<String, List<String>> e : bodies.entrySet()) {
            for (String line : e.getValue()) {
                Check.due(e.getKey() + " makes an object: " + line.trim(), line.contains("new ") ? 1 : 0, 0);
            }
        }
        int constructors = 0;
        for (String line : lines) {
            constructors += CONSTRUCTOR.matcher(line).matches() ? 1 : 0;
        }
        Check.due("constructors that are written out", constructors, 1);
    }
}
