import java.util.ArrayList;
import java.util.Arrays;
import java.util.Comparator;
import java.util.HashMap;
import java.util.List;
import java.util.Map;
import java.util.function.BiPredicate;

/** The document said again, without regard to time or room, to look at the class by. */
final class Model {
    static final long NO = Long.MIN_VALUE;

    static final class R {
        int number, kind, v, size, whom, damp, state;
        int[] row = new int[4];

        R copy() {
            R r = new R();
            r.number = number;
            r.kind = kind;
            r.v = v;
            r.size = size;
            r.whom = whom;
            r.damp = damp;
            r.state = state;
            r.row = row.clone();
            return r;
        }
    }

    record Clause(char sort, int n, BiPredicate<R, Integer> e) { }

    static final class W {
        int[] grief = new int[4];
        int[] rain = new int[4];
        List<R> rockets = new ArrayList<>();
        int minute;
        List<Clause> show = List.of();
        List<int[]> marked = new ArrayList<>();
        List<int[]> plan = new ArrayList<>();
        List<int[]> book = new ArrayList<>();

        W copy() {
            W w = new W();
            w.grief = grief.clone();
            w.rain = rain.clone();
            for (R r : rockets) {
                w.rockets.add(r.copy());
            }
            w.minute = minute;
            w.show = show;
            w.marked.addAll(marked);
            w.plan.addAll(plan);
            w.book.addAll(book);
            return w;
        }

        int dry() {
            int dry = 2;
            for (Clause c : show) {
                dry = c.sort == 'r' ? c.n : dry;
            }
            return dry;
        }

        int light(int p) {
            R r = rockets.get(p);
            int sum = 2 * r.size - r.damp / 10;
            for (Clause c : show) {
                if (c.sort != 'r' && c.e.test(r, minute)) {
                    sum += c.sort == 'b' ? c.n : -c.n;
                }
            }
            int seen = (int) rockets.stream().filter(o -> o.state == 2).count();
            int frame = rain[minute % 4] > r.v ? 0 : sum;
            return switch (r.kind) {
                case 1 -> sum + r.v;
                case 2 -> sum / 2;
                case 3 -> frame;
                case 4 -> sum + r.v + 2 * seen;
                case 5 -> minute % 3 == 0 ? sum / 2 * 2 : sum / 2;
                case 6 -> frame + r.row[minute % 4];
                default -> sum;
            };
        }

        W lit(int p) {
            R r = rockets.get(p);
            if (r.state == 0) {
                int light = light(p);
                r.state = light > 0 ? 2 : 1;
                grief[r.whom] = Math.max(0, grief[r.whom] - Math.max(0, light));
            }
            return this;
        }

        W gone(int n) {
            for (; n > 0; n--) {
                for (R r : rockets) {
                    if (r.state == 0) {
                        r.damp = Math.min(99, Math.max(0, r.damp + 3 * rain[minute % 4] - dry()));
                    }
                }
                minute++;
            }
            return this;
        }

        int even() {
            return (int) Arrays.stream(grief).filter(g -> g == 0).count();
        }

        int all() {
            return Arrays.stream(grief).sum();
        }

        int bits(int state) {
            return rockets.stream().filter(r -> r.state == state).mapToInt(r -> 1 << r.number).sum();
        }

        boolean has(int p) {
            return p >= 0 && p < rockets.size();
        }
    }

    W w = new W();
    W image;
    int shows;
    StringBuilder text = new StringBuilder();
    List<Integer> trace = new ArrayList<>();
    Object[] tapes = new Object[6];

    private static boolean in(int n, int least, int most) {
        return least <= n && n <= most;
    }

    // ---- rockets, people, shows

    int rocket(int kind, int v, int size, int person) {
        if (!in(kind, 0, 6) || !in(person, 0, 3)) return -1;
        if (!in(v, 0, 9) || !in(size, 0, 20)) return -2;
        if (w.rockets.size() == 6) return -4;
        R r = new R();
        r.number = w.rockets.size();
        r.kind = kind;
        r.v = v;
        r.size = size;
        r.whom = person;
        w.rockets.add(r);
        return r.number;
    }

    int of(int p, int what) {
        if (!w.has(p) || !in(what, 0, 10)) return -10001;
        R r = w.rockets.get(p);
        return switch (what) {
            case 0 -> r.kind;
            case 1 -> r.v;
            case 2 -> r.size;
            case 3 -> r.whom;
            case 4 -> r.damp;
            case 5 -> r.state;
            case 6 -> w.light(p);
            case 7 -> brightest(p)[0];
            case 8 -> brightest(p)[1];
            case 9 -> gift(p);
            default -> sizes(p);
        };
    }

    private int[] brightest(int p) {
        List<int[]> all = new ArrayList<>();
        for (int n = 0; n <= 20; n++) {
            all.add(new int[] {n, w.copy().gone(n).light(p)});
        }
        return all.stream().min(Comparator.<int[]>comparingInt(a -> -a[1]).thenComparingInt(a -> a[0])).get();
    }

    private int gift(int p) {
        List<int[]> all = new ArrayList<>();
        for (int q = 0; q < 4; q++) {
            W t = w.copy();
            t.rockets.get(p).whom = q;
            for (R r : w.rockets) {
                t.lit(r.number);
            }
            all.add(new int[] {q, t.even(), t.all()});
        }
        return all.stream().min(Comparator.<int[]>comparingInt(a -> -a[1]).thenComparingInt(a -> a[2])
            .thenComparingInt(a -> a[0])).get()[0];
    }

    private boolean so(W t, int[] m) {
        return Math.max(0, t.copy().gone(m[1]).light(m[0])) == m[2];
    }

    private int sizes(int p) {
        int bits = 0;
        for (int s = 0; s <= 20; s++) {
            W t = w.copy();
            t.rockets.get(p).size = s;
            bits |= (w.marked.stream().allMatch(m -> m[0] != p || so(t, m)) ? 1 : 0) << s;
        }
        return bits;
    }

    int set(int p, int what, int n) {
        if (!w.has(p) || !in(what, 0, 2)) return -1;
        if (!in(n, 0, new int[] {20, 99, 3}[what])) return -2;
        R r = w.rockets.get(p);
        int was = what == 0 ? r.size : what == 1 ? r.damp : r.whom;
        if (what == 0) r.size = n;
        if (what == 1) r.damp = n;
        if (what == 2) r.whom = n;
        return was;
    }

    int light(int p) {
        if (!w.has(p)) return -1;
        if (w.rockets.get(p).state != 0) return -3;
        return w.lit(p).rockets.get(p).state;
    }

    int grieve(int q, int n) {
        if (!in(q, 0, 3)) return -1;
        if (!in(n, 0, 999)) return -2;
        int was = w.grief[q];
        w.grief[q] = n;
        return was;
    }

    int rain(int k, int n) {
        if (!in(k, 0, 3)) return -1;
        if (!in(n, 0, 9)) return -2;
        int was = w.rain[k];
        w.rain[k] = n;
        return was;
    }

    int row(int p, int part, int n) {
        if (!w.has(p) || !in(part, 0, 3)) return -1;
        if (!in(n, 0, 9)) return -2;
        R r = w.rockets.get(p);
        if (r.kind != 6) return -3;
        int was = r.row[part];
        r.row[part] = n;
        return was;
    }

    int feed(int sign) {
        if (!in(sign, 0, 127)) return -2;
        if (text.length() == 100) return -4;
        return text.append((char) sign).length();
    }

    int show() {
        if (shows == 6) return -4;
        Grammar g = new Grammar(text.toString());
        List<Clause> show = g.show();
        text.setLength(0);
        if (show == null) return -10 - g.furthest;
        w.show = show;
        return shows++;
    }

    int told(int what) {
        if (what < 0) return -1;
        if (what == 0) return w.minute;
        if (what == 1) return w.dry();
        if (what == 2) {
            int bits = 0;
            for (int q = 0; q < 4; q++) bits += w.grief[q] == 0 ? 1 << q : 0;
            return bits;
        }
        if (what == 3) return w.all();
        if (what == 4) return w.bits(0);
        if (what == 5) return w.bits(2);
        if (in(what, 10, 13)) return w.rain[what - 10];
        if (in(what, 20, 23)) return w.grief[what - 20];
        if (in(what, 30, 33)) return enough(what - 30);
        return -1;
    }

    private int enough(int q) {
        for (int size = 0; size <= 6; size++) {
            for (int set = 0; set < 64; set++) {
                if (Integer.bitCount(set) == size && (set & w.bits(0)) == set) {
                    W t = w.copy();
                    for (int p = 0; p < 6; p++) {
                        if ((set & 1 << p) != 0) t.lit(p);
                    }
                    if (t.grief[q] == 0) return set;
                }
            }
        }
        return -5;
    }

    /** The grammar as it stands, every way tried: no byte beyond the furthest one begins a show. */
    private static final class Grammar {
        final String text;
        int furthest;

        record Test(int end, BiPredicate<R, Integer> e) { }

        record Part(int end, List<Clause> clauses) { }

        Grammar(String text) {
            this.text = text;
        }

        List<Clause> show() {
            List<Part> open = List.of(new Part(0, List.of()));
            for (int clauses = 1; clauses <= 10; clauses++) {
                List<Part> closed = new ArrayList<>();
                for (Part part : open) {
                    clause(part, closed);
                }
                open = new ArrayList<>();
                for (Part part : closed) {
                    if (part.end == text.length()) return part.clauses;
                    furthest = Math.max(furthest, part.end);
                    for (int at : word(List.of(part.end), clauses < 10 ? ";" : "")) {
                        if (clauses < 10) open.add(new Part(at, part.clauses));
                    }
                }
            }
            return null;
        }

        private List<Integer> word(List<Integer> from, String word) {
            List<Integer> at = new ArrayList<>(from);
            for (char c : word.toCharArray()) {
                List<Integer> next = new ArrayList<>();
                for (int i : at) {
                    furthest = Math.max(furthest, i);
                    if (i < text.length() && text.charAt(i) == c) next.add(i + 1);
                }
                at = next;
            }
            return at;
        }

        private List<Integer> digits(int from) {
            List<Integer> ends = new ArrayList<>();
            int at = from;
            for (int k = 0; k < 2; k++) {
                furthest = Math.max(furthest, at);
                if (at < text.length() && Character.isDigit(text.charAt(at))) {
                    at++;
                    ends.add(at);
                } else {
                    break;
                }
            }
            return ends;
        }

        private void clause(Part part, List<Part> closed) {
            Map<Character, String> words = new HashMap<>();
            words.put('b', "bright ");
            words.put('i', "dim ");
            words.put('r', "dry ");
            for (char sort : words.keySet()) {
                for (int at : word(List.of(part.end), words.get(sort))) {
                    for (int end : digits(at)) {
                        int n = Integer.parseInt(text.substring(at, end));
                        if (sort == 'r') {
                            closed.add(with(part, end, new Clause('r', n, null)));
                            continue;
                        }
                        for (int blank : word(List.of(end), " ")) {
                            for (Test t : e(blank, 0)) {
                                closed.add(with(part, t.end, new Clause(sort, n, t.e)));
                            }
                        }
                    }
                }
            }
        }

        private static Part with(Part part, int end, Clause c) {
            List<Clause> all = new ArrayList<>(part.clauses);
            all.add(c);
            return new Part(end, all);
        }

        private List<Test> e(int at, int depth) {
            List<Test> all = new ArrayList<>();
            for (Test t : t(at, depth)) {
                all.add(t);
                for (int next : word(List.of(t.end), "|")) {
                    for (Test e : e(next, depth)) {
                        all.add(new Test(e.end, t.e.or(e.e)));
                    }
                }
            }
            return all;
        }

        private List<Test> t(int at, int depth) {
            List<Test> all = new ArrayList<>();
            for (Test f : f(at, depth)) {
                all.add(f);
                for (int next : word(List.of(f.end), "&")) {
                    for (Test t : t(next, depth)) {
                        all.add(new Test(t.end, f.e.and(t.e)));
                    }
                }
            }
            return all;
        }

        private List<Test> f(int at, int depth) {
            List<Test> all = new ArrayList<>();
            if (depth < 4) {
                for (int next : word(List.of(at), "!")) {
                    for (Test f : f(next, depth + 1)) {
                        all.add(new Test(f.end, f.e.negate()));
                    }
                }
                for (int next : word(List.of(at), "(")) {
                    for (Test e : e(next, depth + 1)) {
                        for (int end : word(List.of(e.end), ")")) {
                            all.add(new Test(end, e.e));
                        }
                    }
                }
            }
            for (char letter : "pkvswm".toCharArray()) {
                for (int sign : word(List.of(at), "" + letter)) {
                    for (char c : "<=>".toCharArray()) {
                        for (int from : word(List.of(sign), "" + c)) {
                            for (int end : digits(from)) {
                                all.add(new Test(end, test(letter, c, Integer.parseInt(text.substring(from, end)))));
                            }
                        }
                    }
                }
            }
            return all;
        }

        private static BiPredicate<R, Integer> test(char letter, char sign, int n) {
            return (r, minute) -> {
                int left = switch (letter) {
                    case 'p' -> r.number;
                    case 'k' -> r.kind;
                    case 'v' -> r.v;
                    case 's' -> r.size;
                    case 'w' -> r.damp / 10;
                    default -> minute % 10;
                };
                return sign == '<' ? left < n : sign == '=' ? left == n : left > n;
            };
        }
    }

    // ---- minutes, rows

    int pass(int n) {
        if (!in(n, 0, 60)) return -2;
        if (w.minute + n > 9999) return -3;
        return w.gone(n).minute;
    }

    int on(int n, int what) {
        boolean damp = in(what, 10, 9 + w.rockets.size());
        boolean light = in(what, 20, 19 + w.rockets.size());
        if (!damp && !light) return -10001;
        if (!in(n, 0, 60)) return -2;
        W t = w.copy().gone(n);
        return damp ? t.rockets.get(what - 10).damp : t.light(what - 20);
    }

    int best(int n, int k) {
        if (!in(k, -2, 2)) return -1;
        if (!in(n, 1, 3)) return -2;
        List<List<Integer>> rows = new ArrayList<>();
        rows(n, new ArrayList<>(), rows);
        if (rows.isEmpty()) return -5;
        int[] best = null;
        List<Integer> bestRow = null;
        for (List<Integer> row : rows) {
            W t = w.copy();
            for (int p : row) {
                t.lit(p).gone(1);
            }
            int[] is = {t.even(), t.all()};
            if (best == null || is[0] > best[0] || is[0] == best[0] && is[1] < best[1]) {
                best = is;
                bestRow = row;
            }
        }
        return k < 0 ? best[k + 2] : k < n ? bestRow.get(k) : -5;
    }

    private void rows(int n, List<Integer> begun, List<List<Integer>> rows) {
        if (begun.size() == n) {
            rows.add(List.copyOf(begun));
            return;
        }
        for (R r : w.rockets) {
            if (r.state == 0 && !begun.contains(r.number)) {
                begun.add(r.number);
                rows(n, begun, rows);
                begun.remove(begun.size() - 1);
            }
        }
    }

    // ---- marked, odds

    int mark(int p, int n, int light) {
        if (p == -1) {
            w.marked.clear();
            return 0;
        }
        if (!w.has(p)) return -1;
        if (!in(n, 0, 12) || !in(light, 0, 999)) return -2;
        if (w.marked.size() == 5) return -4;
        w.marked.add(new int[] {p, n, light});
        return w.marked.size();
    }

    int wrong() {
        for (int[] m : w.marked) {
            if (!so(w, m)) return w.marked.indexOf(m);
        }
        return -5;
    }

    int can(int p, int what) {
        if (!w.has(p) || !in(what, 0, 1)) return -1;
        List<Integer> fits = new ArrayList<>();
        for (int v = 0; v <= 9; v++) {
            W t = w.copy();
            t.rockets.get(p).v = v;
            if (w.marked.stream().allMatch(m -> m[0] != p || so(t, m))) fits.add(v);
        }
        return what == 0 ? fits.size() : fits.isEmpty() ? -5 : fits.get(0);
    }

    private static long part(long above, long below, int part) {
        for (long g = below; g > 1; g--) {
            if (above % g == 0 && below % g == 0) return part(above / g, below / g, part);
        }
        return part == 0 ? above : below;
    }

    long odds(int p, int part) {
        if (!w.has(p) || !in(part, 0, 1)) return NO;
        int n = 0;
        for (int rain = 0; rain < 10; rain++) {
            W t = w.copy();
            t.rain[t.minute % 4] = rain;
            n += t.gone(1).light(p) > 0 ? 1 : 0;
        }
        return part(n, 10, part);
    }

    long mean(int part) {
        return !in(part, 0, 1) || w.even() == 4 ? NO : part(w.all(), 4 - w.even(), part);
    }

    // ---- plans, books

    int plan(int what, int p) {
        if (what == -1) {
            w.plan.clear();
            return 0;
        }
        if (!in(what, 0, 3) || what > 0 && !w.has(p)) return -1;
        if (w.plan.size() == 10) return -4;
        w.plan.add(new int[] {what, p});
        return w.plan.size();
    }

    int ends(int what) {
        if (!in(what, 0, 1)) return -1;
        W t = w.copy();
        for (int[] row : w.plan) {
            switch (row[0]) {
                case 0 -> t.gone(1);
                case 1 -> t.lit(row[1]);
                case 2 -> t.rockets.get(row[1]).damp = 0;
                default -> t.rockets.get(row[1]).state = 0;
            }
        }
        return what == 0 ? t.all() : t.bits(2);
    }

    int book(int p, int damp) {
        if (p == -1) {
            w.book.clear();
            return 0;
        }
        if (!w.has(p)) return -1;
        if (!in(damp, 0, 99)) return -2;
        if (w.book.size() == 8) return -4;
        w.book.add(new int[] {p, damp});
        return w.book.size();
    }

    int looked() {
        for (int[] row : w.book) {
            if (w.rockets.get(row[0]).damp != row[1]) return w.book.indexOf(row);
        }
        return -5;
    }

    // ---- judging, the image, acts, tapes

    int judge(int tape, int i) {
        if (!in(tape, 0, 5)) return -1;
        if (tapes[tape] == null) return 100;
        if (!(tapes[tape] instanceof short[] row)) return -12;
        int looked = 0;
        for (long at = i; i >= 0 && at < row.length; at++) {
            if (row[(int) at] != w.grief[looked]) return looked;
            looked++;
            if (looked == 4) return -5;
        }
        return 100 + looked;
    }

    int image() {
        image = w.copy();
        return w.rockets.size();
    }

    int undo() {
        if (image == null) return -3;
        w = image.copy();
        return w.rockets.size();
    }

    int act(int p, int act, int x) {
        trace.clear();
        return w.has(p) && in(act, 0, 2) ? call(w.rockets.get(p), w.rockets.get(p).kind, act, x) : 0;
    }

    private static final int[] ABOVE = {-1, 0, 0, 0, 1, 2, 3};
    private static final int[][] BODIES = {{10, 11, 12}, {0, 20, 0}, {30, 0, 0}, {0, 0, 40}, {50, 51, 0}, {0, 0, 60},
        {71, 70, 0}};

    /** The body of a kind, or of the next one above that has one. */
    private int call(R r, int from, int act, int x) {
        int kind = from;
        while (BODIES[kind][act] == 0) {
            kind = ABOVE[kind];
        }
        int body = BODIES[kind][act];
        int up = ABOVE[kind];
        trace.add(body);
        switch (body) {
            case 10:
                return x + r.number;
            case 11:
                return call(r, r.kind, 0, x) - r.v;
            case 12:
                return call(r, r.kind, 1, x) * 2;
            case 20:
                return call(r, up, 1, x) ^ 6;
            case 30:
                return call(r, up, 0, x * 3);
            case 40:
                int tells = call(r, up, 2, x);
                return tells + call(r, r.kind, 1, 1);
            case 50:
                return -call(r, up, 0, x);
            case 51:
                return call(r, up, 1, x + 1);
            case 60:
                return call(r, up, 2, x - r.number);
            case 70:
                int climbs = call(r, up, 1, x);
                return climbs + call(r, up, 0, 2);
            default:
                return call(r, up, 0, x) ^ r.v;
        }
    }

    int trace(int i) {
        return in(i, 0, Math.min(20, trace.size()) - 1) ? trace.get(i) : -1;
    }

    int taken(int p, int k) {
        if (!in(k, 0, 6)) return -2;
        if (!w.has(p)) return -11;
        for (int kind = w.rockets.get(p).kind; kind >= 0; kind = ABOVE[kind]) {
            if (kind == k) return w.rockets.get(p).kind;
        }
        return -12;
    }

    int count(int what) {
        if (!in(what, 0, 6)) return -2;
        return new int[] {w.rockets.size(), shows, w.marked.size(), w.plan.size(), w.book.size(), text.length(),
            trace.size()}[what];
    }

    int tape(int tape, int sort, int n) {
        if (!in(tape, 0, 5)) return -1;
        if (!in(sort, -1, 4)) return -2;
        if (sort == -1) {
            tapes[tape] = null;
            return 1;
        }
        if (n > 60) return -2;
        if (n < 0) return -14;
        tapes[tape] = switch (sort) {
            case 0 -> new byte[n];
            case 1 -> new short[n];
            case 2 -> new int[n];
            case 3 -> new long[n];
            default -> new boolean[n];
        };
        return 1;
    }

    private int length(int tape) {
        return java.lang.reflect.Array.getLength(tapes[tape]);
    }

    int item(int tape, int i, long v) {
        if (!in(tape, 0, 5)) return -1;
        if (tapes[tape] == null) return -11;
        if (!in(i, 0, length(tape) - 1)) return -13;
        if (tapes[tape] instanceof byte[] b) b[i] = (byte) v;
        if (tapes[tape] instanceof short[] s) s[i] = (short) v;
        if (tapes[tape] instanceof int[] n) n[i] = (int) v;
        if (tapes[tape] instanceof long[] l) l[i] = v;
        if (tapes[tape] instanceof boolean[] z) z[i] = v != 0;
        return 1;
    }

    long read(int tape, int i) {
        if (!in(tape, 0, 5) || tapes[tape] == null || !in(i, 0, length(tape) - 1)) return NO;
        if (tapes[tape] instanceof boolean[] z) return z[i] ? 1 : 0;
        return java.lang.reflect.Array.getLong(tapes[tape], i);
    }

    int shift(int tape, int i, int other, int j, int n) {
        if (!in(tape, 0, 5) || !in(other, 0, 5)) return -1;
        if (tapes[tape] == null || tapes[other] == null) return -11;
        if (tapes[tape].getClass() != tapes[other].getClass()) return -12;
        if (n < 0 || i < 0 || j < 0 || n > length(tape) - i || n > length(other) - j) return -13;
        System.arraycopy(tapes[tape], i, tapes[other], j, n);
        return n;
    }
}
