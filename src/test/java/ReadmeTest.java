import java.lang.reflect.Method;
import java.nio.file.Files;
import java.nio.file.Path;
import java.util.HashMap;
import java.util.List;
import java.util.Map;
import java.util.regex.Matcher;
import java.util.regex.Pattern;

/** What README.md shows as calls and answers, and tells of the kinds, is what the class answers. */
public final class ReadmeTest {
    private static final Answers A = new Answers();
    private static final String NEW = "HireShed shed = new HireShed();";
    private static final Pattern CALL = Pattern.compile(
        "(?:int (?<name>\\w+) = )?shed\\.(?<method>\\w+)\\((?<numbers>[^()]*)\\); *// (?<answer>-?\\w+)(:.*)?");
    private static final Pattern KIND = Pattern.compile(
        "\\| (?<kind>\\d) [A-Z ]+\\| [^|]+"
        + "\\| (?<deposit>yes|no) +\\| (?<insured>yes|no) +\\| (?<serviced>yes|no) +\\|");
    private static final Map<String, Integer> CONSTANTS = Map.of(
        "NONE", HireShed.NONE, "BAD", HireShed.BAD, "NO", HireShed.NO, "FULL", HireShed.FULL);

    private Map<String, Integer> named = CONSTANTS;
    private HireShed shed = null;
    private int calls = 0;
    private int kinds = 0;

    public static void main(String[] args) throws Exception {
        new ReadmeTest().lookAt(Files.readAllLines(Path.of("README.md")));
        A.end("ReadmeTest");
    }

    private void lookAt(List<String> lines) throws Exception {
        boolean isCode = false;
        for (String line : lines) {
            Matcher kind = KIND.matcher(line);
            if (line.startsWith("```")) {
                isCode = line.equals("```java");
            } else if (isCode && !line.isBlank()) {
                runLine(line);
            } else if (kind.matches()) {
                lookAtKind(line, kind);
            }
        }
        A.holds("README.md shows calls", calls > 0);
        A.due("kinds in README.md", kinds, 7);
    }

    /** A line of a form that isn't known here would go unchecked, so it is wrong. */
    private void runLine(String line) throws Exception {
        Matcher call = CALL.matcher(line);
        if (line.equals(NEW)) {
            shed = new HireShed();
            named = new HashMap<>(CONSTANTS);
        } else if (shed != null && call.matches()) {
            runCall(line, call);
        } else {
            A.holds("README.md, a line that can't be checked: " + line, false);
        }
    }

    private void runCall(String line, Matcher call) throws Exception {
        String[] words = call.group("numbers").split(", ");
        Object[] numbers = new Object[words.length];
        for (int i = 0; i < words.length; i++) {
            numbers[i] = numberOf(words[i]);
        }
        long answer = ((Number) methodNamed(call.group("method")).invoke(shed, numbers)).longValue();
        A.due("README.md: " + line, answer, numberOf(call.group("answer")));
        if (call.group("name") != null) {
            A.holds("README.md: one name twice: " + line, named.put(call.group("name"), (int) answer) == null);
        }
        calls++;
    }

    private int numberOf(String word) {
        return named.containsKey(word) ? named.get(word) : Integer.parseInt(word);
    }

    private static Method methodNamed(String name) {
        for (Method each : HireShed.class.getMethods()) {
            if (each.getName().equals(name)) {
                return each;
            }
        }
        throw new IllegalStateException("README.md calls " + name + ", which is no method");
    }

    private void lookAtKind(String line, Matcher row) {
        HireShed fresh = new HireShed();
        int tool = fresh.tool(Integer.parseInt(row.group("kind")), 10, 2000);
        dueYes(line, fresh.ask(tool, 3, 0) != HireShed.NO, row.group("deposit"));
        dueYes(line, fresh.told(tool, 5) == 1, row.group("insured"));
        dueYes(line, fresh.told(tool, 6) == 1, row.group("serviced"));
        kinds++;
    }

    private static void dueYes(String line, boolean got, String want) {
        A.holds("README.md: " + line + " is not '" + want + "'", got == want.equals("yes"));
    }
}
