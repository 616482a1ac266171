import java.io.IOException;
import java.nio.file.Files;
import java.nio.file.Path;
import java.util.LinkedHashMap;
import java.util.LinkedHashSet;
import java.util.Map;
import java.util.Random;
import java.util.Set;
import java.util.TreeSet;
import java.util.regex.Matcher;
import java.util.regex.Pattern;

/** What README.md says of calls: the answers in its examples, the table of all calls, their ERRORS. */
public final class ReadmeTests {
    private static final Path README = Path.of("README.md");
    private static final Path DOCUMENT = Path.of("../shared/DOC.md");
    private static final Pattern BLOCK = Pattern.compile("(?s)```java\n(.*?)```");
    private static final Pattern EXAMPLE = Pattern.compile("x\\.(\\w+)\\(([^)]*)\\); +// (-?\\d+): .+");
    private static final Pattern ROW = Pattern.compile("(?m)^\\| `((\\w+)\\([^)]*\\))` \\| .+ \\| ([A-Z, ]*)\\|$");
    private static final Pattern HEAD = Pattern.compile("public int (\\w+)\\(([^)]*)\\);");
    private static final Pattern ERROR_ROW = Pattern.compile("(?m)^\\| ([A-Z]+) \\| (-\\d+) \\|");
    private static final String[] ERRORS = {"BEYOND", "NONE", "STATE", "FULL", "KIND"};
    private static final int LOW = -1000000000;
    private static final int RUNS = 40 * Calls.FACE.length;
    private static final int CALLS = 400;

    private ReadmeTests() {
    }

    public static void main(String[] args) throws IOException {
        String readme = Files.readString(README);
        examples(readme);
        errors(readme);
        Map<String, Set<String>> told = rows(readme);
        allCalls(readme, Files.readString(DOCUMENT));
        errorsOfDrawnCalls(told);
        Checks.end();
    }

    private static void examples(String readme) {
        int blocks = 0;
        Matcher block = BLOCK.matcher(readme);
        while (block.find()) {
            blocks++;
            String[] lines = block.group(1).split("\n");
            Checks.holds("an example begins with its object", lines[0].equals("NinePots x = new NinePots();"));
            NinePots x = new NinePots();
            for (int i = 1; i < lines.length; i++) {
                example(x, lines[i]);
            }
        }
        Checks.holds("README.md has examples", blocks > 0);
    }

    private static void example(NinePots x, String line) {
        Matcher parts = EXAMPLE.matcher(line);
        if (!parts.matches()) {
            Checks.holds("a call and its answer: " + line, false);
            return;
        }
        String[] words = parts.group(2).isEmpty() ? new String[0] : parts.group(2).split(", ");
        long[] arguments = new long[words.length];
        for (int i = 0; i < words.length; i++) {
            arguments[i] = Long.decode(words[i].replace("L", ""));
        }
        Checks.due(line, Calls.make(x, parts.group(1), arguments), Long.parseLong(parts.group(3)));
    }

    private static void errors(String readme) {
        Set<String> found = new LinkedHashSet<>();
        Matcher row = ERROR_ROW.matcher(readme);
        while (row.find()) {
            found.add(row.group(1) + " " + row.group(2));
        }
        Set<String> due = new LinkedHashSet<>();
        for (int k = 1; k <= ERRORS.length; k++) {
            due.add(ERRORS[k - 1] + " " + (LOW - k));
        }
        Checks.holds("README.md's ERRORS are " + due + " and not " + found, due.equals(found));
    }

    /** By a call's name the ERRORS that the table tells of it. */
    private static Map<String, Set<String>> rows(String readme) {
        Map<String, Set<String>> told = new LinkedHashMap<>();
        Matcher row = ROW.matcher(readme);
        while (row.find()) {
            Set<String> errors = new TreeSet<>();
            for (String error : row.group(3).trim().split(", ")) {
                if (!error.isEmpty()) {
                    errors.add(error);
                }
            }
            told.put(row.group(2), errors);
        }
        return told;
    }

    /** The table's calls are those of the document's face, with its arguments, in its order. */
    private static void allCalls(String readme, String document) {
        StringBuilder due = new StringBuilder();
        Matcher head = HEAD.matcher(document);
        while (head.find()) {
            due.append(head.group(1)).append('(').append(head.group(2).replaceAll("(int|long) ", "")).append(") ");
        }
        StringBuilder found = new StringBuilder();
        Matcher row = ROW.matcher(readme);
        while (row.find()) {
            found.append(row.group(1)).append(' ');
        }
        Checks.holds("the table is " + due + "and not " + found, due.toString().contentEquals(found));
    }

    private static void errorsOfDrawnCalls(Map<String, Set<String>> told) {
        Map<String, Set<String>> answered = new LinkedHashMap<>();
        for (String name : told.keySet()) {
            answered.put(name, new TreeSet<>());
        }
        for (int seed = 0; seed < RUNS; seed++) {
            drawnRun(new Random(seed), Calls.FACE[seed % Calls.FACE.length], answered);
        }
        for (String name : told.keySet()) {
            Checks.holds(name + " answers the ERRORS " + told.get(name) + " and not " + answered.get(name),
                told.get(name).equals(answered.get(name)));
        }
    }

    /** Half of the calls are one act, so that some run fills what it can fill. */
    private static void drawnRun(Random draws, String often, Map<String, Set<String>> answered) {
        NinePots x = new NinePots();
        for (int use = 0; use < 2; use++) {
            Checks.read(x, use, Calls.text(draws, use));
        }
        for (int i = 0; i < CALLS; i++) {
            String act = draws.nextBoolean() ? often : Calls.FACE[draws.nextInt(Calls.FACE.length)];
            String[] parts = act.split(" ", -1);
            long[] arguments = new long[parts[1].length()];
            for (int k = 0; k < arguments.length; k++) {
                arguments[k] = Calls.argument(draws, parts[1].charAt(k));
            }
            long k = LOW - Calls.make(x, parts[0], arguments);
            if (k >= 1 && k <= ERRORS.length && answered.containsKey(parts[0])) {
                answered.get(parts[0]).add(ERRORS[(int) k - 1]);
            }
        }
    }
}
