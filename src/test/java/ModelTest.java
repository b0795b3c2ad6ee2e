import java.util.Random;

/** Runs of calls on new objects, each answer against the model's; the same runs each time. */
public final class ModelTest {
    private static final int RUNS = 4000;
    private static final int CALLS = 512;
    private static final int[] ODD = {Integer.MIN_VALUE, Integer.MAX_VALUE, -2, -1, 7, 13, 21, 61, 100, 128, 1000};
    private static final Due d = new Due();

    private final Random random;
    private final FireApologies x = new FireApologies();
    private final Model m = new Model();
    private final String run;
    private final int oddness;
    private final boolean lateStart;
    private int calls;

    private ModelTest(int seed) {
        random = new Random(seed);
        run = "run " + seed + ", call ";
        oddness = seed % 3 == 0 ? 6 : 40;
        lateStart = seed % 10 == 0;
    }

    public static void main(String[] args) {
        for (int seed = 1; seed <= RUNS; seed++) {
            new ModelTest(seed).run();
        }
        d.end();
    }

    private void run() {
        int first = random.nextInt(7);
        for (int p = 0; p < first; p++) {
            int kind = random.nextInt(7), v = random.nextInt(10), size = random.nextInt(21), who = random.nextInt(4);
            due("rocket", x.rocket(kind, v, size, who), m.rocket(kind, v, size, who));
        }
        for (int q = 0; q < 4; q++) {
            int n = random.nextInt(4) == 0 ? 0 : random.nextInt(60);
            due("grieve", x.grieve(q, n), m.grieve(q, n));
        }
        // some runs are near the last MINUTE, so that what is asked goes on beyond it
        for (int k = 0; lateStart && k < 166; k++) {
            due("pass", x.pass(60), m.pass(60));
        }
        while (calls < CALLS) {
            if (random.nextInt(12) == 0) {
                text(random.nextInt(3) == 0 ? spoiled(show()) : show());
            } else if (random.nextBoolean()) {
                change();
            } else if (random.nextInt(3) > 0) {
                ask();
            } else {
                tape();
            }
        }
    }

    private void due(String call, long got, long want) {
        calls++;
        d.due(run + calls + ": " + call, got, want);
    }

    /** 0 .. most, or, now and then, what is odd. */
    private int n(int most) {
        if (random.nextInt(oddness) == 0) {
            return random.nextBoolean() ? most + 1 : ODD[random.nextInt(ODD.length)];
        }
        return random.nextInt(most + 1);
    }

    private int p() {
        return n(Math.max(0, m.count(0) - 1));
    }

    private void change() {
        int a = p();
        switch (random.nextInt(14)) {
            case 0 -> {
                int kind = n(6), v = n(9), size = n(20), who = n(3);
                due("rocket", x.rocket(kind, v, size, who), m.rocket(kind, v, size, who));
            }
            case 1 -> {
                int what = n(2), to = n(new int[] {20, 99, 3}[Math.floorMod(what, 3)]);
                due("set", x.set(a, what, to), m.set(a, what, to));
            }
            case 2 -> due("light", x.light(a), m.light(a));
            case 3, 4 -> {
                int q = n(3), to = random.nextBoolean() ? n(40) : n(999);
                due("grieve", x.grieve(q, to), m.grieve(q, to));
            }
            case 5 -> {
                int k = n(3), to = n(9);
                due("rain", x.rain(k, to), m.rain(k, to));
            }
            case 6 -> {
                int part = n(3), to = n(9);
                due("row", x.row(a, part, to), m.row(a, part, to));
            }
            case 7 -> {
                int k = random.nextInt(3) > 0 ? n(3) : n(60);
                due("pass", x.pass(k), m.pass(k));
            }
            case 8, 9 -> mark();
            case 10 -> {
                int what = random.nextInt(12) == 0 ? -1 : n(3);
                due("plan", x.plan(what, a), m.plan(what, a));
            }
            case 11 -> {
                int b = random.nextInt(6) == 0 ? -1 : a;
                int damp = random.nextInt(4) == 0 ? n(99) : m.of(a, 4);
                due("book", x.book(b, damp), m.book(b, damp));
            }
            case 12 -> due("image", x.image(), m.image());
            default -> due("undo", x.undo(), m.undo());
        }
    }

    private void mark() {
        int a = random.nextInt(8) == 0 ? -1 : p();
        int k = n(12);
        int is = Math.max(0, m.on(k, 20 + a));
        int light = random.nextInt(3) == 0 ? n(40) : is;
        due("mark", x.mark(a, k, light), m.mark(a, k, light));
    }

    private void ask() {
        int a = p();
        switch (random.nextInt(15)) {
            case 0, 1, 2, 3 -> {
                int what = n(10);
                due("of " + what, x.of(a, what), m.of(a, what));
            }
            case 4 -> {
                int what = random.nextBoolean() ? 30 + n(3) : n(45);
                due("told " + what, x.told(what), m.told(what));
            }
            case 5 -> {
                int k = n(60), what = n(9) + 10 + 10 * random.nextInt(2);
                due("on " + what, x.on(k, what), m.on(k, what));
            }
            case 6, 7 -> {
                int k = 1 + n(2), i = -2 + n(4);
                due("best " + k + " " + i, x.best(k, i), m.best(k, i));
            }
            case 8 -> due("wrong", x.wrong(), m.wrong());
            case 9 -> {
                int what = n(1);
                due("can", x.can(a, what), m.can(a, what));
            }
            case 10 -> {
                int part = n(1);
                due("odds", x.odds(a, part), m.odds(a, part));
                due("mean", x.mean(part), m.mean(part));
            }
            case 11 -> {
                int what = n(1);
                due("ends", x.ends(what), m.ends(what));
            }
            case 12 -> due("looked", x.looked(), m.looked());
            case 13 -> {
                int act = n(2), to = random.nextBoolean() ? n(50) : random.nextInt();
                due("act " + act, x.act(a, act, to), m.act(a, act, to));
                for (int i = -1; i < m.trace.size() + 1; i++) {
                    due("trace " + i, x.trace(i), m.trace(i));
                }
            }
            default -> {
                int k = n(6);
                due("taken", x.taken(a, k), m.taken(a, k));
                due("count " + k, x.count(k), m.count(k));
            }
        }
    }

    private void tape() {
        int t = n(5), i = n(8);
        switch (random.nextInt(6)) {
            case 0 -> {
                int sort = random.nextInt(3) == 0 ? 1 : n(5) - 1, size = random.nextBoolean() ? n(8) : n(60);
                due("tape", x.tape(t, sort, size), m.tape(t, sort, size));
            }
            case 1, 2 -> {
                long v = random.nextInt(3) == 0 ? random.nextLong() : m.told(20 + random.nextInt(4));
                due("item", x.item(t, i, v), m.item(t, i, v));
            }
            case 3 -> due("read", x.read(t, i), m.read(t, i));
            case 4 -> {
                int other = random.nextBoolean() ? t : n(5), j = n(8), size = n(5);
                due("shift", x.shift(t, i, other, j, size), m.shift(t, i, other, j, size));
            }
            default -> {
                for (int q = 0; q < 4 && random.nextInt(6) > 0; q++) {
                    int at = i > 100 ? i : i + q;
                    due("item", x.item(t, at, m.w.grief[q]), m.item(t, at, m.w.grief[q]));
                }
                due("judge", x.judge(t, i), m.judge(t, i));
            }
        }
    }

    // ---- shows

    private void text(String text) {
        for (int k = 0; k < text.length(); k++) {
            due("feed", x.feed(text.charAt(k)), m.feed(text.charAt(k)));
        }
        due("show of " + m.text, x.show(), m.show());
    }

    private String show() {
        StringBuilder text = new StringBuilder();
        int clauses = random.nextInt(5) == 0 ? 1 + random.nextInt(12) : 1 + random.nextInt(4);
        for (int k = 0; k < clauses; k++) {
            text.append(k > 0 ? ";" : "");
            switch (clauses > 6 ? 2 : random.nextInt(3)) {
                case 0 -> text.append("bright ").append(random.nextInt(30)).append(' ').append(e(0));
                case 1 -> text.append("dim ").append(random.nextInt(30)).append(' ').append(e(0));
                default -> text.append("dry ").append(random.nextInt(30));
            }
        }
        return text.toString();
    }

    private String e(int depth) {
        return switch (random.nextInt(depth > 4 ? 3 : 9)) {
            case 3 -> e(depth + 1) + "|" + e(depth + 1);
            case 4 -> e(depth + 1) + "&" + e(depth + 1);
            case 5 -> "!" + e(depth + 1);
            case 6 -> "(" + e(depth + 1) + ")";
            case 7 -> "!(" + e(depth + 1) + ")";
            default -> {
                char letter = "pkvswm".charAt(random.nextInt(6));
                int most = letter == 's' ? 21 : letter == 'k' ? 7 : letter == 'p' ? 6 : 10;
                yield "" + letter + "<=>".charAt(random.nextInt(3)) + random.nextInt(most);
            }
        };
    }

    private String spoiled(String text) {
        String signs = "bright dim dry ;|&!()<=>pkvswm0123456789xyz\u0000\u007f";
        int at = random.nextInt(text.length());
        String sign = "" + signs.charAt(random.nextInt(signs.length()));
        return switch (random.nextInt(4)) {
            case 0 -> text.substring(0, at);
            case 1 -> text.substring(0, at) + text.substring(at + 1);
            case 2 -> text.substring(0, at) + sign + text.substring(at);
            default -> text.substring(0, at) + sign + text.substring(at + 1);
        };
    }
}
