/** An object of the class whose calls are made by name and counted. */
final class Used {
    /** How many calls the document lets an object have. */
    static final int MOST_CALLS = 512;

    private final FireApologies x = new FireApologies();
    private int calls;

    long call(String name, long... a) {
        calls++;
        if (calls > MOST_CALLS) {
            throw new IllegalStateException("the test makes more calls than the document lets an object have");
        }
        return switch (name) {
            case "rocket" -> x.rocket((int) a[0], (int) a[1], (int) a[2], (int) a[3]);
            case "of" -> x.of((int) a[0], (int) a[1]);
            case "set" -> x.set((int) a[0], (int) a[1], (int) a[2]);
            case "light" -> x.light((int) a[0]);
            case "grieve" -> x.grieve((int) a[0], (int) a[1]);
            case "rain" -> x.rain((int) a[0], (int) a[1]);
            case "row" -> x.row((int) a[0], (int) a[1], (int) a[2]);
            case "feed" -> x.feed((int) a[0]);
            case "show" -> x.show();
            case "told" -> x.told((int) a[0]);
            case "pass" -> x.pass((int) a[0]);
            case "on" -> x.on((int) a[0], (int) a[1]);
            case "best" -> x.best((int) a[0], (int) a[1]);
            case "mark" -> x.mark((int) a[0], (int) a[1], (int) a[2]);
            case "wrong" -> x.wrong();
            case "can" -> x.can((int) a[0], (int) a[1]);
            case "odds" -> x.odds((int) a[0], (int) a[1]);
            case "mean" -> x.mean((int) a[0]);
            case "plan" -> x.plan((int) a[0], (int) a[1]);
            case "ends" -> x.ends((int) a[0]);
            case "book" -> x.book((int) a[0], (int) a[1]);
            case "looked" -> x.looked();
            default -> callOfTapes(name, a);
        };
    }

    private long callOfTapes(String name, long... a) {
        return switch (name) {
            case "judge" -> x.judge((int) a[0], (int) a[1]);
            case "image" -> x.image();
            case "undo" -> x.undo();
            case "act" -> x.act((int) a[0], (int) a[1], (int) a[2]);
            case "trace" -> x.trace((int) a[0]);
            case "taken" -> x.taken((int) a[0], (int) a[1]);
            case "count" -> x.count((int) a[0]);
            case "tape" -> x.tape((int) a[0], (int) a[1], (int) a[2]);
            case "item" -> x.item((int) a[0], (int) a[1], a[2]);
            case "read" -> x.read((int) a[0], (int) a[1]);
            case "shift" -> x.shift((int) a[0], (int) a[1], (int) a[2], (int) a[3], (int) a[4]);
            default -> throw new IllegalArgumentException("no such call: " + name);
        };
    }

    /** Feeds a text, sign by sign: what the last feed() answers, or 0 if the text is empty. */
    long feedAll(String text) {
        long answer = 0;
        for (int k = 0; k < text.length(); k++) {
            answer = call("feed", text.charAt(k));
        }
        return answer;
    }
}
