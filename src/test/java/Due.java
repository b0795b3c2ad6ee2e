/** Counts and prints the answers that are not as due. */
final class Due {
    private int asked;
    private int wrong;

    void due(String call, long got, long want) {
        asked++;
        if (got != want) {
            wrong++;
            System.out.println(call + " answered " + got + ", due is " + want);
        }
    }

    /** Feeds a text, sign by sign, and makes it a show: what show() answers. */
    static int show(FireApologies x, String text) {
        feed(x, text);
        return x.show();
    }

    static void feed(FireApologies x, String text) {
        for (int k = 0; k < text.length(); k++) {
            x.feed(text.charAt(k));
        }
    }

    /** Ends with exit code 1 if an answer was not as due, or if nothing was asked. */
    void end() {
        System.out.println(asked + " answers looked at, " + wrong + " not as due");
        if (wrong != 0 || asked == 0) {
            System.exit(1);
        }
    }
}
