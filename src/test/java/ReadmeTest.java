import java.io.File;
import java.io.IOException;
import java.lang.reflect.Method;
import java.lang.reflect.Modifier;
import java.nio.file.Files;
import java.nio.file.Path;
import java.util.ArrayList;
import java.util.List;
import java.util.Map;
import java.util.Set;
import java.util.TreeMap;
import java.util.TreeSet;
import java.util.regex.Matcher;
import java.util.regex.Pattern;
import javax.tools.JavaCompiler;
import javax.tools.ToolProvider;

/** README.md: what it shows of calls and answers is what the class answers, and no call, refusal or test is left out. */
public final class ReadmeTest {
    private static final Set<String> REFUSALS = Set.of("UNKNOWN", "OUTSIDE", "NOT", "FULL");
    private static final Pattern SHOWN = Pattern.compile("((?:x\\.)?(\\w+)\\(.*\\)); +// (-?\\d+|NONE|UNKNOWN|OUTSIDE|NOT|FULL)(?:: .+)?");
    private static final Pattern ROW = Pattern.compile("\\| `(\\w+)\\((.*?)\\)` \\| (.*) \\|(.*)\\|");
    /** The answers that are shown of each call: refusals by their names, "" for any other. */
    private static final Map<String, Set<String>> shown = new TreeMap<>();

    private ReadmeTest() {
    }

    public static void main(String[] args) throws IOException, ReflectiveOperationException {
        List<String> lines = Files.readAllLines(Path.of("README.md"));
        runShown(sourceOf(blocks(lines)));
        rows(lines);
        refusalNumbers(lines);
        testsNamed(lines);
        Due.end();
    }

    private static List<List<String>> blocks(List<String> lines) {
        List<List<String>> blocks = new ArrayList<>();
        boolean within = false;
        for (String line : lines) {
            if (line.equals("```java")) {
                within = true;
                blocks.add(new ArrayList<>());
            } else if (line.equals("```")) {
                within = false;
            } else if (within) {
                blocks.get(blocks.size() - 1).add(line);
            }
        }
        return blocks;
    }

    /** One class of all blocks: methods as they stand, else a method for each block, in which each call shown is judged. */
    private static String sourceOf(List<List<String>> blocks) {
        StringBuilder members = new StringBuilder();
        StringBuilder calls = new StringBuilder();
        for (List<String> block : blocks) {
            if (block.get(0).startsWith("static ")) {
                members.append(String.join("\n", block)).append('\n');
            } else {
                String name = "block" + members.length();
                calls.append(name).append("();\n");
                members.append("static void ").append(name).append("() {\n");
                block.forEach(line -> members.append(judged(line)).append('\n'));
                members.append("}\n");
            }
        }
        return "final class ReadmeShown {\n" + members + "static void show() {\n" + calls + "}\n}\n";
    }

    private static String judged(String line) {
        Matcher m = SHOWN.matcher(line);
        if (!m.matches()) {
            Due.holds("an answer stands behind: " + line, !line.startsWith("x.") && !line.startsWith("tell("));
            return line;
        }
        String want = m.group(3);
        shown.computeIfAbsent(m.group(2), name -> new TreeSet<>()).add(REFUSALS.contains(want) ? want : "");
        boolean named = Character.isLetter(want.charAt(0));
        String call = m.group(1).replace("\\", "\\\\").replace("\"", "\\\"");
        return "Due.is(\"" + call + "\", " + m.group(1) + ", " + (named ? "TurnedRiver." : "") + want + ");";
    }

    private static void runShown(String source) throws IOException, ReflectiveOperationException {
        String out = System.getProperty("java.class.path").split(File.pathSeparator)[0];
        Path file = Path.of(out, "ReadmeShown.java");
        Files.writeString(file, source);
        JavaCompiler compiler = ToolProvider.getSystemJavaCompiler();
        int answer = compiler == null ? -1 : compiler.run(null, null, null, "-cp", out, "-d", out, file.toString());
        Due.is("compiling what is shown", answer, 0);
        if (answer == 0) {
            Method show = Class.forName("ReadmeShown").getDeclaredMethod("show");
            show.setAccessible(true);
            show.invoke(null);
        }
    }

    /** Each call of the face has one row; the refusals in its last column are those that are shown, and an answer is too. */
    private static void rows(List<String> lines) {
        Map<String, String> parameters = new TreeMap<>();
        for (String line : lines) {
            Matcher m = ROW.matcher(line);
            if (m.matches()) {
                Due.holds("one row of " + m.group(1), parameters.put(m.group(1), m.group(2)) == null);
                Set<String> due = new TreeSet<>(Set.of(""));
                Matcher word = Pattern.compile("`([A-Z]+)`:").matcher(m.group(4));
                while (word.find()) {
                    due.add(word.group(1));
                }
                Due.same("answers shown of " + m.group(1), shown.getOrDefault(m.group(1), Set.of()).toString(), due.toString());
            }
        }
        Set<String> face = new TreeSet<>();
        for (Method method : TurnedRiver.class.getDeclaredMethods()) {
            if (Modifier.isPublic(method.getModifiers())) {
                face.add(method.getName());
                String told = parameters.getOrDefault(method.getName(), "");
                Due.is("parameters of " + method.getName(), told.isEmpty() ? 0 : told.split(", ").length, method.getParameterCount());
            }
        }
        Due.same("calls that have a row", parameters.keySet().toString(), face.toString());
    }

    private static void refusalNumbers(List<String> lines) throws ReflectiveOperationException {
        int seen = 0;
        for (String line : lines) {
            Matcher m = Pattern.compile("\\| `([A-Z]+)` \\| (-\\d+) \\|.*").matcher(line);
            if (m.matches()) {
                seen++;
                Due.is(m.group(1), Long.parseLong(m.group(2)), TurnedRiver.class.getField(m.group(1)).getInt(null));
            }
        }
        Due.is("refusals with their numbers", seen, REFUSALS.size());
    }

    private static void testsNamed(List<String> lines) {
        Set<String> named = new TreeSet<>();
        for (String line : lines) {
            Matcher m = Pattern.compile("\\| `(\\w+Test)` \\|.*").matcher(line);
            if (m.matches()) {
                named.add(m.group(1) + ".java");
            }
        }
        String[] files = new File("src/test/java").list();
        Due.same("tests named", named.toString(), new TreeSet<>(files == null ? Set.of() : Set.of(files)).toString());
    }
}
