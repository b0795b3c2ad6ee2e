import java.util.ArrayList;
import java.util.List;
import java.util.Map;
import java.util.Set;

/**
 * Rows of calls on a new object, each with the answer that is due. They stand behind one another with ; or a new
 * line between: "grieve(0, 5) = 0", "grieve(0, 1000) = BAD"; "pass(1)" alone must not be refused; "9 x pass(60)";
 * show 'dry 1' = 0 feeds a text and makes it a SHOW; show 'dry' = fault 3; feed 'dry' feeds it only.
 *
 * <p>Behind each row that is refused or asks, all that can be seen of the object is looked at: it must be as that of
 * another one that has had the same calls but for this one.
 */
final class Rows {
    private static final char QUOTE = '\'';
    private static final Map<String, Long> WORDS = Map.of("NONE", -1L, "BAD", -2L, "STATE", -3L, "FULL", -4L,
        "NOTHING", -11L, "CAST", -12L, "PLACE", -13L, "SIZE", -14L, "NO", Long.MIN_VALUE);
    private static final Set<String> ASKING = Set.of("of", "told", "on", "best", "wrong", "can", "odds", "mean",
        "ends", "looked", "judge", "trace", "taken", "count", "read");

    private record Row(String words, int times, String name, long[] args, String text, String want) {
        boolean changesNothing() {
            return WORDS.containsKey(want) || want.startsWith("fault") || ASKING.contains(name);
        }
    }

    private final Due d;
    private final String label;
    private final List<Row> rows = new ArrayList<>();

    private Rows(Due d, String label) {
        this.d = d;
        this.label = label;
    }

    static void run(Due d, String label, String words) {
        Rows all = new Rows(d, label);
        for (String row : split(words)) {
            all.rows.add(parse(row));
        }
        all.play();
        all.lookBehindEach();
    }

    private static List<String> split(String words) {
        List<String> all = new ArrayList<>();
        StringBuilder row = new StringBuilder();
        boolean quoted = false;
        for (char c : (words + "\n").toCharArray()) {
            quoted ^= c == QUOTE;
            if (!quoted && (c == ';' || c == '\n')) {
                if (!row.toString().isBlank()) {
                    all.add(row.toString().trim());
                }
                row.setLength(0);
            } else {
                row.append(c);
            }
        }
        return all;
    }

    private static Row parse(String words) {
        String rest = words;
        int times = 1;
        if (rest.matches("\\d+ x .*")) {
            times = Integer.parseInt(rest.substring(0, rest.indexOf(' ')));
            rest = rest.substring(rest.indexOf(" x ") + 3);
        }
        int end = Math.max(rest.lastIndexOf(QUOTE), rest.lastIndexOf(')')) + 1;
        String want = rest.substring(end).replaceFirst("^ *= *", "").trim();
        String call = rest.substring(0, end);
        if (call.indexOf(QUOTE) >= 0) {
            String name = call.substring(0, call.indexOf(' '));
            String text = call.substring(call.indexOf(QUOTE) + 1, call.lastIndexOf(QUOTE));
            return new Row(words, times, name, new long[0], text, want);
        }
        String[] numbers = call.substring(call.indexOf('(') + 1, call.length() - 1).trim().split(" *, *");
        long[] args = new long[numbers[0].isEmpty() ? 0 : numbers.length];
        for (int k = 0; k < args.length; k++) {
            args[k] = number(numbers[k]);
        }
        return new Row(words, times, call.substring(0, call.indexOf('(')), args, null, want);
    }

    private static long number(String words) {
        return switch (words) {
            case "MIN" -> Integer.MIN_VALUE;
            case "MAX" -> Integer.MAX_VALUE;
            case "LMIN" -> Long.MIN_VALUE;
            case "LMAX" -> Long.MAX_VALUE;
            default -> Long.parseLong(words);
        };
    }

    private static long wanted(String want) {
        if (want.startsWith("fault ")) {
            return -10 - Long.parseLong(want.substring("fault ".length()));
        }
        return WORDS.containsKey(want) ? WORDS.get(want) : number(want);
    }

    private static long play(Used used, Row row) {
        long answer = 0;
        for (int k = 0; k < row.times; k++) {
            if (row.text == null) {
                answer = used.call(row.name, row.args);
            } else {
                answer = used.feedAll(row.text);
                answer = row.name.equals("show") ? used.call("show") : answer;
            }
        }
        return answer;
    }

    private void play() {
        Used used = new Used();
        for (Row row : rows) {
            long answer = play(used, row);
            if (row.want.isEmpty()) {
                boolean mayBeBelow = row.name.equals("act");
                d.due(label + row.words + " is not refused, it answers " + answer, answer >= 0 || mayBeBelow ? 1 : 0, 1);
            } else {
                d.due(label + row.words, answer, wanted(row.want));
            }
        }
    }

    private Used ahead(int count) {
        Used used = new Used();
        for (Row row : rows.subList(0, count)) {
            play(used, row);
        }
        return used;
    }

    private void lookBehindEach() {
        for (int k = 0; k < rows.size(); k++) {
            Row row = rows.get(k);
            if (row.changesNothing()) {
                Used with = ahead(k);
                play(with, row);
                same(row, Look.at(with), Look.at(ahead(k)));
            }
        }
    }

    private void same(Row row, List<String> with, List<String> without) {
        String differs = "nothing";
        for (int k = 0; k < Math.max(with.size(), without.size()) && differs.equals("nothing"); k++) {
            String one = k < with.size() ? with.get(k) : "no call";
            String other = k < without.size() ? without.get(k) : "no call";
            differs = one.equals(other) ? differs : one + ", and without it " + other;
        }
        d.due(label + "behind " + row.words + " has changed: " + differs, differs.equals("nothing") ? 0 : 1, 0);
    }
}
