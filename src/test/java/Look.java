import java.util.ArrayList;
import java.util.List;

/** All that can be seen of an object: what it answers now, by its TEXT made a SHOW, and by its IMAGE. */
final class Look {
    private final Used used;
    private final List<String> seen = new ArrayList<>();

    private Look(Used used) {
        this.used = used;
    }

    /** What is seen, a line for each call. The object is used up by it. */
    static List<String> at(Used used) {
        Look look = new Look(used);
        look.now();
        look.ask("show");
        look.briefly();
        look.ask("undo");
        look.briefly();
        look.rows();
        return look.seen;
    }

    private long ask(String name, long... args) {
        long answer = used.call(name, args);
        StringBuilder line = new StringBuilder(name).append('(');
        for (int k = 0; k < args.length; k++) {
            line.append(k > 0 ? ", " : "").append(args[k]);
        }
        seen.add(line.append(") ").append(answer).toString());
        return answer;
    }

    private void now() {
        counts();
        for (int k = 0; k <= 3; k++) {
            ask("told", 10 + k);
            ask("told", 20 + k);
            ask("told", 30 + k);
        }
        long rockets = used.call("count", 0);
        for (int p = 0; p < rockets; p++) {
            for (int what = 0; what <= 10; what++) {
                ask("of", p, what);
            }
            for (int n = 1; n <= 3; n++) {
                ask("on", n, 20 + p);
            }
            ask("can", p, 0);
            ask("can", p, 1);
            ask("odds", p, 0);
            ask("odds", p, 1);
        }
        ask("mean", 0);
        ask("mean", 1);
        for (int n = 1; n <= 3; n++) {
            for (int k = -2; k < n; k++) {
                ask("best", n, k);
            }
        }
        rows();
        tapes();
    }

    private void counts() {
        for (int what = 0; what <= 6; what++) {
            ask("count", what);
        }
        for (int what = 0; what <= 5; what++) {
            ask("told", what);
        }
    }

    private void rows() {
        ask("wrong");
        ask("looked");
        ask("ends", 0);
        ask("ends", 1);
    }

    private void tapes() {
        for (int tape = 0; tape <= 5; tape++) {
            ask("judge", tape, 0);
            ask("read", tape, 0);
            ask("read", tape, 1);
            ask("read", tape, 59);
        }
        long bodies = used.call("count", 6);
        for (int i = 0; i <= bodies; i++) {
            ask("trace", i);
        }
    }

    private void briefly() {
        counts();
        for (int k = 0; k <= 3; k++) {
            ask("told", 10 + k);
            ask("told", 20 + k);
        }
        long rockets = used.call("count", 0);
        for (int p = 0; p < rockets; p++) {
            ask("of", p, 4);
            ask("of", p, 5);
            ask("of", p, 6);
        }
    }
}
