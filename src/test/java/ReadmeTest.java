import java.io.IOException;
import java.lang.reflect.Method;
import java.nio.file.DirectoryStream;
import java.nio.file.Files;
import java.nio.file.Path;
import java.util.ArrayList;
import java.util.List;
import java.util.Map;
import java.util.Random;
import java.util.Set;
import java.util.TreeMap;
import java.util.TreeSet;
import java.util.regex.Matcher;
import java.util.regex.Pattern;
import javax.tools.ToolProvider;

/** README.md tells the truth: its example runs as it says, its tables are as the class answers. */
public final class ReadmeTest {
    private static final Due d = new Due();
    private static final String EXAMPLE = "ReadmeExample";
    private static final String FAULT = "FAULT";

    /** Whose answers may be below 0 without a refusal, so that these can't be told from one. */
    private static final Set<String> MAY_BE_BELOW = Set.of("of", "on", "act", "read");
    private static final int[] ODD = {Integer.MIN_VALUE, Integer.MAX_VALUE, -2, -1, 6, 7, 10, 20, 21, 30, 31, 60, 61,
        100, 128, 999, 1000};
    private static final int ROUNDS = 20;
    private static final int LATE = 166;

    private final String page = Files.readString(Path.of("README.md"));
    private final Map<String, Long> named = new TreeMap<>(Map.of("-5", -5L, "-10001", -10001L));
    private final Map<String, Set<String>> listed = new TreeMap<>();
    private final Map<String, Set<String>> seen = new TreeMap<>();

    private ReadmeTest() throws IOException {
    }

    public static void main(String[] args) throws Exception {
        ReadmeTest t = new ReadmeTest();
        t.example();
        t.answers();
        t.calls();
        t.refusals();
        t.tests();
        d.end();
    }

    // ---- the example

    /** What an answer of the example is, held against what stands behind it. */
    public static int seen(String line, int got, long want) {
        d.due("README.md's " + line.trim(), got, want);
        return got;
    }

    public static long seen(String line, long got, long want) {
        d.due("README.md's " + line.trim(), got, want);
        return got;
    }

    private void example() throws Exception {
        Matcher block = Pattern.compile("(?s)```java\n(.*?)```").matcher(page);
        d.due("README.md has an example", block.find() ? 1 : 0, 1);
        Pattern told = Pattern.compile("(.*?)(x\\.\\w+\\(.*\\)); +// (-?\\d+|FireApologies\\.NO): .*");
        StringBuilder source = new StringBuilder("final class " + EXAMPLE + " {\nstatic void run() {\n");
        for (String line : block.group(1).split("\n")) {
            Matcher m = told.matcher(line);
            boolean answers = m.matches();
            d.due("README.md tells what this answers: " + line, answers || !line.startsWith("x.") ? 1 : 0, 1);
            source.append(answers ? m.group(1) + "ReadmeTest.seen(\"" + m.group(2) + "\", " + m.group(2) + ", "
                + m.group(3) + ");" : line).append('\n');
        }
        run(source.append("}\n}\n").toString());
    }

    private static void run(String source) throws Exception {
        Path classes = Path.of(System.getProperty("java.class.path"));
        Path file = classes.resolve(EXAMPLE + ".java");
        Files.writeString(file, source);
        int exit = ToolProvider.getSystemJavaCompiler().run(null, null, null, "-d", classes.toString(), "-cp",
            classes.toString(), file.toString());
        d.due("README.md's example compiles", exit, 0);
        if (exit == 0) {
            Class.forName(EXAMPLE).getDeclaredMethod("run").invoke(null);
        }
    }

    // ---- the tables

    /** The rows of the table under a title, without its head. */
    private List<String[]> table(String title) {
        List<String[]> rows = new ArrayList<>();
        String part = (page + "\n## ").split("\n## " + Pattern.quote(title) + "\n", 2)[1].split("\n## ", 2)[0];
        for (String line : part.split("\n")) {
            if (line.startsWith("| ")) {
                rows.add(line.substring(1, line.length() - 1).split("\\|"));
            }
        }
        return rows.subList(1, rows.size());
    }

    private static long number(String words) {
        return words.equals("`Long.MIN_VALUE`") ? Long.MIN_VALUE : Long.parseLong(words.replace(" less f", ""));
    }

    private void answers() throws Exception {
        Set<Long> numbers = new TreeSet<>();
        for (String[] row : table("What the answers below 0 mean")) {
            long number = number(row[0].trim());
            numbers.add(number);
            String name = row[1].trim();
            if (name.startsWith("`")) {
                name = name.replace("`", "");
                d.due("the constant " + name, ((Number) FireApologies.class.getField(name).get(null)).longValue(), number);
            }
            if (!name.isEmpty()) {
                named.putIfAbsent(name, number);
            }
            d.due(number + " is told in words", row[2].isBlank() ? 0 : 1, 1);
            String want = number == Long.MIN_VALUE ? "NO" : Long.toString(number);
            Rows.run(d, "README.md on " + want + ": ", row[3].replace("`", "") + " = " + want);
        }
        Set<Long> all = Set.of(-1L, -2L, -3L, -4L, -5L, -10L, -11L, -12L, -13L, -14L, -10001L, Long.MIN_VALUE);
        d.due("README.md tells each answer below 0, it tells " + numbers, numbers.equals(all) ? 1 : 0, 1);
    }

    private void calls() throws IOException {
        Set<String> told = new TreeSet<>();
        for (String[] row : table("The calls")) {
            String call = row[0].replace("`", "").trim();
            told.add(call);
            Set<String> refusals = new TreeSet<>();
            for (String name : row[2].split(",")) {
                if (!name.isBlank()) {
                    refusals.add(name.trim());
                }
            }
            d.due(call + " is told in words", row[1].isBlank() ? 0 : 1, 1);
            listed.put(call.substring(0, call.indexOf('(')), refusals);
        }
        Set<String> face = new TreeSet<>();
        Matcher m = Pattern.compile("    public (?:int|long) (\\w+\\(.*\\));")
            .matcher(Files.readString(Path.of("../shared/DOC.md")));
        while (m.find()) {
            face.add(m.group(1).replaceAll("\\b(int|long) ", ""));
        }
        d.due("README.md tells each call of the face: " + told, told.equals(face) ? 1 : 0, 1);
    }

    // ---- the answers below 0 of each call

    private void refusals() {
        List<Method> face = new ArrayList<>();
        for (Method m : FireApologies.class.getDeclaredMethods()) {
            if (listed.containsKey(m.getName())) {
                face.add(m);
            }
        }
        // the order of reflection is free, and the runs are to be the same each time
        face.sort((a, b) -> a.getName().compareTo(b.getName()));
        for (int seed = 0; seed < ROUNDS * face.size(); seed++) {
            probe(new Random(seed), face, face.get(seed % face.size()), seed / face.size() % 2 == 0);
        }
        for (String name : listed.keySet()) {
            Set<String> got = seen.getOrDefault(name, Set.of());
            for (String refusal : listed.get(name)) {
                d.due(name + " answers " + refusal, got.contains(refusal) ? 1 : 0, 1);
            }
            for (String refusal : MAY_BE_BELOW.contains(name) ? Set.<String>of() : got) {
                d.due(name + " answers " + refusal + ", and README.md says so", listed.get(name).contains(refusal) ? 1 : 0, 1);
            }
        }
    }

    /** A run of calls, most of them of one. */
    private void probe(Random random, List<Method> face, Method one, boolean late) {
        Used used = new Used();
        int calls = Used.MOST_CALLS;
        for (int k = 0; late && k < LATE; k++) {
            used.call("pass", 60);
            calls--;
        }
        while (calls > 10) {
            Method m = random.nextBoolean() ? one : face.get(random.nextInt(face.size()));
            long[] args = new long[m.getParameterCount()];
            for (int k = 0; k < args.length; k++) {
                args[k] = random.nextInt(4) > 0 ? random.nextInt(6) : ODD[random.nextInt(ODD.length)];
            }
            if (m.getName().equals("show") && random.nextBoolean()) {
                used.feedAll("dry 1");
                calls -= 5;
            }
            note(m.getName(), used.call(m.getName(), args));
            calls--;
        }
    }

    private void note(String call, long answer) {
        if (answer >= 0) {
            return;
        }
        String name = Long.toString(answer);
        for (String known : named.keySet()) {
            boolean fits = !known.equals(FAULT) && named.get(known) == answer;
            name = fits ? known : name;
        }
        boolean isFault = call.equals("show") && answer <= -10;
        seen.computeIfAbsent(call, c -> new TreeSet<>()).add(isFault ? FAULT : name);
    }

    // ---- the tests

    private void tests() throws IOException {
        d.due("README.md tells the command that runs all tests", page.contains("\n.ci/run\n") ? 1 : 0, 1);
        d.due("the command can be run", Files.isExecutable(Path.of(".ci/run")) ? 1 : 0, 1);
        try (DirectoryStream<Path> files = Files.newDirectoryStream(Path.of("src/test/java"), "*Test.java")) {
            for (Path file : files) {
                String name = file.getFileName().toString().replace(".java", "");
                d.due("README.md tells of " + name, page.contains("`" + name + "`") ? 1 : 0, 1);
            }
        }
    }
}
