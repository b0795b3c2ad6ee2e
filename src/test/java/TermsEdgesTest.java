import java.io.IOException;

/** "What it is" and "Terms": each sentence that names a boundary case, with a test of its own. */
public final class TermsEdgesTest {
    /** A hundred bytes that are a SHOW; by it a ROCKET 0 of KIND 0, v 0, SIZE 0 has LIGHT 98 in MINUTE 0. */
    private static final String HUNDRED = "bright 99 p=1|p=2|!(p=0|!(p=0|k=05))|!!!!p<1;dim 11 p>0|k>0;"
        + "dim 01 k=0&v<9&s<1&w<1&m<1;dry 05;dry 07";
    private static final String NINETY_NINE = HUNDRED.replace("dry 07", "dry 7");

    private final Sentences s = new Sentences();

    private TermsEdgesTest() throws IOException {
    }

    public static void main(String[] args) throws IOException {
        new TermsEdgesTest().all();
    }

    private void all() {
        people();
        rain();
        rockets();
        text();
        clauses();
        joins();
        tests();
        depth();
        faults();
        shows();
        sums();
        lights();
        lighting();
        minutes();
        asked();
        brightest();
        rows();
        enough();
        gift();
        marked();
        odds();
        plans();
        acts();
        trace();
        image();
        tapes();
        judged();
        answers();
        s.end(Document.TERMS, Document.TERMS);
    }

    private void people() {
        s.term(1, "An object is used for at most 512 calls after it has been made",
            "rocket(0, 0, 5, 0); grieve(0, 30); 508 x pass(0); pass(1) = 1; light(0) = 2");
        s.term(6, "PEOPLE 0 ..", """
            grieve(-1, 1) = NONE; grieve(0, 1) = 0; grieve(1, 2) = 0; told(20) = 1; told(21) = 2; told(19) = NONE
            rocket(0, 0, 0, -1) = NONE; rocket(0, 0, 0, 0) = 0; rocket(0, 0, 0, 1) = 1
            set(0, 2, -1) = BAD; set(0, 2, 1) = 0; set(0, 2, 0) = 1
            """);
        s.term(6, "3 each have GRIEF", """
            grieve(2, 6) = 0; grieve(3, 7) = 0; grieve(4, 1) = NONE; told(22) = 6; told(23) = 7; told(24) = NONE
            told(33) = -5; told(34) = NONE; told(3) = 13
            rocket(0, 0, 0, 2) = 0; rocket(0, 0, 0, 3) = 1; rocket(0, 0, 0, 4) = NONE
            set(0, 2, 3) = 2; set(0, 2, 4) = BAD; of(0, 3) = 3
            """);
        s.term(6, "GRIEF (0 .. 999; 0 at first)", """
            told(20) = 0; told(21) = 0; told(22) = 0; told(23) = 0
            grieve(0, 1) = 0; grieve(0, -1) = BAD; grieve(0, 0) = 1; grieve(0, -1) = BAD
            grieve(1, 998) = 0; grieve(1, 999) = 998; grieve(1, 1000) = BAD; told(21) = 999; told(20) = 0
            """);
        s.term(11, "EVEN is one whose GRIEF is 0.", """
            told(2) = 15; grieve(0, 1); told(2) = 14; grieve(3, 999); told(2) = 6; grieve(0, 0); told(2) = 7
            grieve(1, 2); grieve(2, 1); told(2) = 1; grieve(0, 1); told(2) = 0
            """);
    }

    private void rain() {
        s.term(7, "RAIN: four numbers (0 .. 9; 0 at first)", """
            told(10) = 0; told(11) = 0; told(12) = 0; told(13) = 0
            rain(-1, 1) = NONE; rain(0, 1) = 0; rain(1, 2) = 0; rain(2, 3) = 0; rain(3, 4) = 0; rain(4, 1) = NONE
            told(10) = 1; told(11) = 2; told(12) = 3; told(13) = 4
            rain(0, -1) = BAD; rain(0, 0) = 1; rain(0, 8) = 0; rain(0, 9) = 8; rain(0, 10) = BAD; told(10) = 9
            """);
        s.term(12, "that of a MINUTE is the one at MINUTE modulo 4.", """
            rocket(0, 0, 0, 0); set(0, 1, 50); rain(0, 1); rain(1, 2); rain(2, 3); rain(3, 4)
            pass(1); of(0, 4) = 51; pass(1); of(0, 4) = 55; pass(1); of(0, 4) = 62; pass(1); of(0, 4) = 72
            pass(1); of(0, 4) = 73; on(3, 10) = 94; on(4, 10) = 95
            """, """
            rocket(3, 4, 5, 0); rain(3, 5); of(0, 6) = 10; pass(2); of(0, 6) = 10; pass(1); of(0, 6) = 0
            pass(1); rain(0, 5); of(0, 6) = 0; rain(0, 4); of(0, 6) = 9
            """);
    }

    private void rockets() {
        s.term(2, "ROCKETS 0 .. 5, as they come, are of KINDS:", """
            light(0) = NONE; rocket(0, 0, 1, 0) = 0; light(-1) = NONE; light(1) = NONE; rocket(1, 0, 2, 0) = 1
            rocket(2, 0, 3, 0) = 2; rocket(3, 0, 4, 0) = 3; rocket(4, 0, 5, 0) = 4; of(5, 2) = -10001
            rocket(5, 0, 6, 0) = 5; of(5, 2) = 6; of(6, 2) = -10001; rocket(6, 0, 7, 0) = FULL
            of(0, 2) = 1; of(0, 0) = 0; of(5, 0) = 5; told(4) = 63
            """);
        s.term(29, "0 ROCKET; 1 FOUNTAIN, 2 WHISTLE, 3 FRAME under ROCKET; 4 CAKE under FOUNTAIN; 5 WHEEL under WHISTLE;"
            + " 6 TOLD under FRAME;", """
            rocket(-1, 0, 0, 0) = NONE; rocket(0, 0, 0, 0) = 0; rocket(1, 0, 0, 0) = 1; rocket(2, 0, 0, 0) = 2
            taken(0, 0) = 0; taken(0, 1) = CAST; taken(0, 2) = CAST; taken(0, 3) = CAST; taken(0, 4) = CAST
            taken(0, 5) = CAST; taken(0, 6) = CAST
            taken(1, 0) = 1; taken(1, 1) = 1; taken(1, 2) = CAST; taken(1, 3) = CAST; taken(1, 4) = CAST
            taken(1, 5) = CAST; taken(1, 6) = CAST
            taken(2, 0) = 2; taken(2, 1) = CAST; taken(2, 2) = 2; taken(2, 3) = CAST; taken(2, 4) = CAST
            taken(2, 5) = CAST; taken(2, 6) = CAST
            """, """
            rocket(3, 0, 0, 0) = 0; rocket(4, 0, 0, 0) = 1; rocket(5, 0, 0, 0) = 2; rocket(6, 0, 0, 0) = 3
            rocket(7, 0, 0, 0) = NONE
            taken(0, 0) = 3; taken(0, 1) = CAST; taken(0, 2) = CAST; taken(0, 3) = 3; taken(0, 6) = CAST
            taken(1, 0) = 4; taken(1, 1) = 4; taken(1, 2) = CAST; taken(1, 3) = CAST; taken(1, 4) = 4; taken(1, 5) = CAST
            taken(2, 0) = 5; taken(2, 1) = CAST; taken(2, 2) = 5; taken(2, 4) = CAST; taken(2, 5) = 5; taken(2, 6) = CAST
            taken(3, 0) = 6; taken(3, 2) = CAST; taken(3, 3) = 6; taken(3, 5) = CAST; taken(3, 6) = 6
            """);
        s.term(2, "with a number v (0 .. 9)", """
            rocket(1, -1, 0, 0) = BAD; rocket(1, 0, 0, 0) = 0; rocket(1, 1, 0, 0) = 1; rocket(1, 8, 0, 0) = 2
            rocket(1, 9, 0, 0) = 3; rocket(1, 10, 0, 0) = BAD; of(0, 1) = 0; of(1, 1) = 1; of(2, 1) = 8; of(3, 1) = 9
            """);
        s.term(2, "a SIZE (0 .. 20)", """
            rocket(0, 0, -1, 0) = BAD; rocket(0, 0, 0, 0) = 0; rocket(0, 0, 1, 0) = 1; rocket(0, 0, 19, 0) = 2
            rocket(0, 0, 20, 0) = 3; rocket(0, 0, 21, 0) = BAD; of(0, 2) = 0; of(1, 2) = 1; of(2, 2) = 19; of(3, 2) = 20
            """);
        s.term(2, "one of PEOPLE it is FOR", """
            rocket(0, 0, 1, -1) = NONE; rocket(0, 0, 1, 0) = 0; rocket(0, 0, 1, 3) = 1; rocket(0, 0, 1, 4) = NONE
            of(0, 3) = 0; of(1, 3) = 3
            """);
        s.term(4, "a DAMP (0 .. 99; 0 at first)", """
            rocket(0, 0, 0, 0); of(0, 4) = 0; set(0, 1, -1) = BAD; set(0, 1, 1) = 0; set(0, 1, 0) = 1
            set(0, 1, 98) = 0; set(0, 1, 99) = 98; set(0, 1, 100) = BAD; of(0, 4) = 99
            """);
        s.term(5, "a STATE (0 UNLIT, at first; 1 FIZZED; 2 SEEN).", """
            rocket(0, 0, 0, 0); rocket(0, 0, 1, 0); rocket(0, 0, 1, 0); of(0, 5) = 0; of(1, 5) = 0
            light(0) = 1; of(0, 5) = 1; light(1) = 2; of(1, 5) = 2; of(2, 5) = 0; told(4) = 4; told(5) = 2
            """);
        s.term(12, "MINUTE: 0 at first.", "told(0) = 0; pass(0) = 0; told(0) = 0; pass(1) = 1; told(0) = 1");
    }

    private void text() {
        s.due("the text has a hundred bytes", HUNDRED.length(), 100);
        s.due("the other has one less", NINETY_NINE.length(), 99);
        s.term(9, "A SHOW is read from THE TEXT (bytes, 100 at most)",
            "rocket(0, 0, 0, 0); show '" + NINETY_NINE + "' = 0; count(5) = 0; told(1) = 7; of(0, 6) = 98",
            "rocket(0, 0, 0, 0); feed '" + HUNDRED + "' = 100; feed(32) = FULL; count(5) = 100; show() = 0"
                + "; count(5) = 0; told(1) = 7; of(0, 6) = 98",
            "feed '" + NINETY_NINE + "' = 99; feed(100) = 100; feed(100) = FULL; show() = -109; count(5) = 0"
                + "; feed(100) = 1",
            "rocket(0, 0, 5, 0); show 'bright 1 " + "p=1|".repeat(22) + "p=0' = 0; of(0, 6) = 11",
            "rocket(0, 0, 5, 0); show 'bright 1 " + "!!!!p=0&".repeat(11) + "p=0' = 0; of(0, 6) = 11");
    }

    private void clauses() {
        String nine = "dry 1;dry 2;dry 3;dry 4;dry 5;dry 6;dry 7;dry 8;dry 9";
        s.term(10, "CLAUSES, 1 to 10, with ; between:",
            "show '' = fault 0; show 'dry 1' = 0; told(1) = 1; show 'dry 1;dry 3' = 1; told(1) = 3",
            "show '" + nine + "' = 0; told(1) = 9; show '" + nine + ";dry 0' = 1; told(1) = 0",
            "show '" + nine + ";dry 0;dry 1' = fault 59; told(1) = 2; count(1) = 0",
            "show '" + nine + ";dry 0;' = fault 59; show '" + nine + ";' = fault 54",
            "show ';' = fault 0; show ';dry 1' = fault 0; show 'dry 1;' = fault 6; show 'dry 1;;dry 2' = fault 6",
            "show 'dry 1 ;dry 2' = fault 5; show 'dry 1; dry 2' = fault 6; show 'dry 1,dry 2' = fault 5"
                + "; show 'dry 1dry 2' = fault 5; count(1) = 0");
        s.term(10, "bright n E; dim n E; dry n",
            "rocket(0, 0, 5, 0); show 'bright 3 p=0' = 0; of(0, 6) = 13; show 'dim 3 p=0' = 1; of(0, 6) = 7"
                + "; show 'dry 3' = 2; of(0, 6) = 10; told(1) = 3",
            "show 'Bright 3 p=0' = fault 0; show 'bRight 3 p=0' = fault 1; show 'brighT 3 p=0' = fault 5"
                + "; show 'brights 3 p=0' = fault 6; show 'bright' = fault 6",
            "show 'Dim 3 p=0' = fault 0; show 'dIm 3 p=0' = fault 1; show 'diM 3 p=0' = fault 2"
                + "; show 'dims 3 p=0' = fault 3; show 'dim' = fault 3; show 'dem 3 p=0' = fault 1",
            "show 'Dry 3' = fault 0; show 'dRy 3' = fault 1; show 'drY 3' = fault 2; show 'dryer 3' = fault 3"
                + "; show 'dry' = fault 3; show 'dry 3 p=0' = fault 5; show 'd' = fault 1; show 'b' = fault 1",
            "show 'bright 3' = fault 8; show 'bright 3;dry 1' = fault 8; show 'dim 3' = fault 5"
                + "; show 'dim 3;dry 1' = fault 5");
        s.term(10, "(one blank ahead of each part behind the word;",
            "show 'bright3 p=0' = fault 6; show 'bright  3 p=0' = fault 7; show 'bright 3p=0' = fault 8"
                + "; show 'bright 3  p=0' = fault 9; show 'bright 3 p=0 ' = fault 12; show ' bright 3 p=0' = fault 0",
            "show 'dim3 p=0' = fault 3; show 'dim  3 p=0' = fault 4; show 'dim 3p=0' = fault 5"
                + "; show 'dim 3  p=0' = fault 6; show 'dim 3 p=0 ' = fault 9; show ' dim 3 p=0' = fault 0",
            "show 'dry3' = fault 3; show 'dry  3' = fault 4; show 'dry 3 ' = fault 5; show ' dry 3' = fault 0",
            "show 'bright 3 p =0' = fault 10; show 'bright 3 p= 0' = fault 11; show 'bright 3 p=0 &p=1' = fault 12"
                + "; show 'bright 3 p=0& p=1' = fault 13; show 'bright 3 ! p=0' = fault 10"
                + "; show 'bright 3 ( p=0)' = fault 10; show 'bright 3 (p=0 )' = fault 13",
            "show 'bright 3 p=0' = 0; show 'dim 3 p=0' = 1; show 'dry 3' = 2");
        s.term(10, "n 1 or 2 digits)",
            "rocket(0, 0, 20, 0); show 'bright  p=0' = fault 7; show 'bright 0 p=0' = 0; of(0, 6) = 40"
                + "; show 'bright 00 p=0' = 1; of(0, 6) = 40; show 'bright 9 p=0' = 2; of(0, 6) = 49"
                + "; show 'bright 10 p=0' = 3; of(0, 6) = 50; show 'bright 99 p=0' = 4; of(0, 6) = 139"
                + "; show 'bright 100 p=0' = fault 9; show 'bright 009 p=0' = fault 9; of(0, 6) = 139"
                + "; show 'bright 05 p=0' = 5; of(0, 6) = 45",
            "rocket(0, 0, 20, 0); show 'dim  p=0' = fault 4; show 'dim 0 p=0' = 0; of(0, 6) = 40"
                + "; show 'dim 9 p=0' = 1; of(0, 6) = 31; show 'dim 10 p=0' = 2; of(0, 6) = 30"
                + "; show 'dim 99 p=0' = 3; of(0, 6) = -59; show 'dim 100 p=0' = fault 6; of(0, 6) = -59",
            "show 'dry ' = fault 4; show 'dry 0' = 0; told(1) = 0; show 'dry 9' = 1; told(1) = 9"
                + "; show 'dry 10' = 2; told(1) = 10; show 'dry 99' = 3; told(1) = 99; show 'dry 100' = fault 6"
                + "; told(1) = 99; show 'dry 08' = 4; told(1) = 8; show 'dry x' = fault 4; show 'dry -1' = fault 4",
            "show 'dry /' = fault 4; show 'dry :' = fault 4; show 'dry 1/' = fault 5; show 'dry 1:' = fault 5");
    }

    /** Six ROCKETS 0 .. 5 of LIGHT 2 each without a SHOW. */
    private static final String SIX = "6 x rocket(0, 0, 1, 0);";

    /** Rows that tell for which of SIX an E holds: those of a digit 1. */
    private static String holds(String e, String digits) {
        StringBuilder rows = new StringBuilder(SIX + "show 'bright 1 " + e + "' = 0");
        for (int p = 0; p < digits.length(); p++) {
            rows.append("; of(").append(p).append(", 6) = ").append(digits.charAt(p) == '1' ? 3 : 2);
        }
        return rows.toString();
    }

    private void joins() {
        s.term(10, "E: T or T|E.",
            holds("p=0", "100000"), holds("p=0|p=5", "100001"), holds("p=0|p=2|p=4", "101010"),
            "show 'bright 1 |p=0' = fault 9; show 'bright 1 p=0|' = fault 13; show 'bright 1 p=0||p=0' = fault 13"
                + "; show 'bright 1 p=0|;dry 1' = fault 13; show 'bright 1 ' = fault 9");
        s.term(10, "T: F or F&T.",
            holds("p>0&p<5", "011110"), holds("p>0&p<5&p>2", "000110"), holds("p=0|p=1&p=2", "100000"),
            holds("p=1&p=2|p=0", "100000"), holds("p<2&p>0|p>3&p<5", "010010"), holds("p=9&p=9|p=1|p=2&p<3", "011000"),
            "show 'bright 1 &p=0' = fault 9; show 'bright 1 p=0&' = fault 13; show 'bright 1 p=0&&p=0' = fault 13"
                + "; show 'bright 1 p=0&|p=0' = fault 13; show 'bright 1 p=0|&p=0' = fault 13");
        s.term(10, "F: !F, (E), or a TEST:",
            holds("!p=0", "011111"), holds("!!p=0", "100000"), holds("!p=0&p<3", "011000"), holds("!p=0|p=0", "111111"),
            holds("(p=0)", "100000"), holds("(p=0|p=1)&p>0", "010000"), holds("p>0&(p=0|p=1)", "010000"),
            holds("!(p=0|p=1)", "001111"), holds("(p=0)|(p=1)", "110000"), holds("!(p>0&!p=5)", "100001"),
            "show 'bright 1 !' = fault 10; show 'bright 1 ()' = fault 10; show 'bright 1 (' = fault 10"
                + "; show 'bright 1 )' = fault 9; show 'bright 1 (p=0' = fault 13; show 'bright 1 (p=0;' = fault 13"
                + "; show 'bright 1 (p=0))' = fault 14; show 'bright 1 p=0)' = fault 12; show 'bright 1 (p=0)!' = fault 14"
                + "; show 'bright 1 (p=0)p' = fault 14; show 'bright 1 p=0!p=0' = fault 12");
        s.term(10, "a letter, < or = or >, a number (1 or 2 digits):",
            holds("p<1", "100000"), holds("p<5", "111110"), holds("p=0", "100000"), holds("p=5", "000001"),
            holds("p>0", "011111"), holds("p>4", "000001"), holds("p>5", "000000"), holds("p<0", "000000"),
            holds("p=05", "000001"), holds("p<99", "111111"), holds("p=50", "000000"), holds("p<10", "111111"),
            "show 'bright 1 p' = fault 10; show 'bright 1 p0' = fault 10; show 'bright 1 p!0' = fault 10"
                + "; show 'bright 1 p<' = fault 11; show 'bright 1 p<=0' = fault 11; show 'bright 1 p==0' = fault 11"
                + "; show 'bright 1 p=x' = fault 11; show 'bright 1 p=000' = fault 13; show 'bright 1 p>100' = fault 13",
            "show 'bright 1 q=0' = fault 9; show 'bright 1 P=0' = fault 9; show 'bright 1 0=p' = fault 9"
                + "; show 'bright 1 pp=0' = fault 10; show 'bright 1 o=0' = fault 9; show 'bright 1 a=0' = fault 9"
                + "; show 'bright 1 z=0' = fault 9; show 'bright 1 =0' = fault 9; count(1) = 0");
    }

    private void tests() {
        s.term(10, "of a ROCKET p its number, k its KIND, v its v, s SIZE,", """
            rocket(0, 9, 20, 0); rocket(0, 0, 0, 0); rocket(0, 8, 19, 0); rocket(0, 1, 1, 0)
            show 'bright 50 p=0' = 0; of(0, 6) = 90; of(1, 6) = 0; of(2, 6) = 38
            show 'bright 50 v=9' = 1; of(0, 6) = 90; of(1, 6) = 0; of(2, 6) = 38; of(3, 6) = 2
            show 'bright 50 v<1' = 2; of(0, 6) = 40; of(1, 6) = 50; of(2, 6) = 38; of(3, 6) = 2
            show 'bright 50 s=20' = 3; of(0, 6) = 90; of(1, 6) = 0; of(2, 6) = 38; of(3, 6) = 2
            show 'bright 50 s<1' = 4; of(0, 6) = 40; of(1, 6) = 50; of(2, 6) = 38; of(3, 6) = 2
            show 'bright 50 s>1' = 5; of(0, 6) = 90; of(1, 6) = 0; of(2, 6) = 88; of(3, 6) = 2
            """, """
            rocket(6, 0, 5, 0); rocket(3, 0, 5, 0); rocket(0, 0, 5, 0); rocket(1, 0, 5, 0)
            show 'bright 50 k=6' = 0; of(0, 6) = 60; of(1, 6) = 10; of(2, 6) = 10; of(3, 6) = 10
            show 'bright 50 k=3' = 1; of(0, 6) = 10; of(1, 6) = 60; of(2, 6) = 10; of(3, 6) = 10
            show 'bright 50 k<1' = 2; of(0, 6) = 10; of(1, 6) = 10; of(2, 6) = 60; of(3, 6) = 10
            """);
        s.term(10, "w DAMP by 10 (cut),", """
            rocket(0, 0, 20, 0); show 'bright 50 w=1' = 0; set(0, 1, 9); of(0, 6) = 40; set(0, 1, 10); of(0, 6) = 89
            set(0, 1, 19); of(0, 6) = 89; set(0, 1, 20); of(0, 6) = 38; show 'bright 50 w=9' = 1; set(0, 1, 89)
            of(0, 6) = 32; set(0, 1, 90); of(0, 6) = 81; set(0, 1, 99); of(0, 6) = 81
            show 'bright 50 w<1' = 2; set(0, 1, 0); of(0, 6) = 90; set(0, 1, 9); of(0, 6) = 90; set(0, 1, 10); of(0, 6) = 39
            """);
        s.term(10, "m MINUTE modulo 10.", """
            rocket(0, 0, 5, 0); show 'bright 50 m=9' = 0; pass(8); of(0, 6) = 10; pass(1); of(0, 6) = 60
            pass(1); of(0, 6) = 10; show 'bright 50 m=0' = 1; of(0, 6) = 60; show 'bright 50 m=10' = 2; of(0, 6) = 10
            pass(9); show 'bright 50 m>8' = 3; of(0, 6) = 60; pass(1); of(0, 6) = 10; show 'bright 50 m<1' = 4; of(0, 6) = 60
            """);
    }

    private void depth() {
        s.term(10, "A ( or ! within 4 others is none.",
            holds("(((p=0)))", "100000"), holds("((((p=0))))", "100000"), holds("!!!p=0", "011111"),
            holds("!!!!p=0", "100000"), holds("!(!(p=0))", "100000"), holds("(!(!p=0))", "100000"),
            holds("!!!!p=0&!!!!p<3", "100000"), holds("((((p=0))))|((((p=1))))", "110000"),
            holds("(!!!p=0&(((p<3))))", "011000"), holds("!(p=0&(p=0|!p=1))", "011111"),
            "show 'dim 1 (((((p=0)))))' = fault 10; show 'dim 1 !!!!!p=0' = fault 10; show 'dim 1 !(!(!p=0))' = fault 10"
                + "; show 'dim 1 !(!((p=0)))' = fault 10; show 'dim 1 (((!!p=0)))' = fault 10"
                + "; show 'dim 1 !!!!(p=0)' = fault 10; show 'dim 1 ((((!p=0))))' = fault 10; count(1) = 0",
            "show 'dim 1 ((((p=0&(p=0)))))' = fault 14; show 'dim 1 ((((p=0|!p=0))))' = fault 14"
                + "; show 'dim 1 (((p=0&!!p=0)))' = fault 14; show 'dim 1 p=0&!!!!!p=0' = fault 14"
                + "; show 'dim 1 !!!!p=0&!!!!!p=0' = fault 18; count(1) = 0");
    }

    private void faults() {
        // a text of 100 bytes that ends too early, and one whose last byte cannot stand there
        String open = "dry 1;dry 2;dim 1 p=1" + "&p=1".repeat(19);
        s.due("the text is three bytes short of a hundred", open.length(), 97);
        s.term(10, "The FAULT: the place of the first byte with which none begins so",
            "show 'x' = fault 0; show ' ' = fault 0; show 'c' = fault 0; show 'dx' = fault 1; show 'bx' = fault 1"
                + "; show 'dry 1x' = fault 5; show 'dry 11x' = fault 6; show 'dry 1;x' = fault 6; show 'dry 1;dx' = fault 7",
            "show 'xxxx' = fault 0; show 'drx yyy' = fault 2; show 'bright 1 p=0;x;x' = fault 13"
                + "; show 'bright 1 p=0;dim 1 q=0;x' = fault 19; show 'dim 1 p=0;bright 1 (p=0&p=1|p)' = fault 29",
            "feed(0) = 1; show() = -10; feed(100) = 1; feed(0) = 2; show() = -11; feed(127) = 1; show() = -10"
                + "; feed 'dry 1'; feed(0) = 6; show() = -15; feed 'dry 1'; feed(127) = 6; show() = -15; count(1) = 0",
            "show '" + open + "&px' = fault 99; count(5) = 0");
        s.term(10, "(the end of THE TEXT, if it ends too early).",
            "show '' = fault 0; show 'd' = fault 1; show 'dr' = fault 2; show 'dry' = fault 3; show 'dry ' = fault 4"
                + "; show 'dry 1' = 0; show 'dry 1;' = fault 6; show 'dry 1;d' = fault 7",
            "show 'b' = fault 1; show 'brigh' = fault 5; show 'bright' = fault 6; show 'bright ' = fault 7"
                + "; show 'bright 1' = fault 8; show 'bright 12' = fault 9; show 'bright 1 ' = fault 9; show 'bright 1 p' = fault 10"
                + "; show 'bright 1 p=' = fault 11; show 'bright 1 p=1' = 0; show 'bright 1 p=1|' = fault 13",
            "show 'bright 1 (' = fault 10; show 'bright 1 (p=1' = fault 13; show 'bright 1 !' = fault 10"
                + "; show 'bright 1 !(p=1&' = fault 15; show 'di' = fault 2; show 'dim 1' = fault 5; show 'dim 1 ' = fault 6",
            "show '" + open + "' = 0; show '" + open + "&p' = fault 99; show '" + open + "&p=' = fault 100; count(1) = 1");
    }

    private void shows() {
        s.term(10, "The newest SHOW holds (6 at most);", """
            rocket(0, 0, 0, 0); show 'bright 1 p=0' = 0; of(0, 6) = 1; show 'bright 2 p=0' = 1; of(0, 6) = 2
            show 'bright 3 p=0' = 2; of(0, 6) = 3; show 'bright 4 p=0' = 3; of(0, 6) = 4; show 'bright 5 p=0' = 4
            of(0, 6) = 5; show 'dry' = fault 3; of(0, 6) = 5; show 'bright 6 p=0' = 5; of(0, 6) = 6; count(1) = 6
            feed 'dry 7' = 5; show() = FULL; of(0, 6) = 6; count(1) = 6; count(5) = 5
            """);
        s.term(10, "without one there are no CLAUSES.", """
            rocket(0, 0, 7, 0); of(0, 6) = 14; told(1) = 2; count(1) = 0; show 'bright 1' = fault 8; of(0, 6) = 14
            image(); show 'bright 1 p=0;dry 9' = 0; of(0, 6) = 15; told(1) = 9; undo(); of(0, 6) = 14; told(1) = 2
            """);
        s.term(11, "DRY (2 without): the last one's n.", """
            told(1) = 2; show 'bright 1 p=0' = 0; told(1) = 2; show 'dry 0' = 1; told(1) = 0; show 'dry 99;dry 1' = 2
            told(1) = 1; show 'dry 1;dry 99;dim 5 p=0' = 3; told(1) = 99; show 'dim 5 p=0' = 4; told(1) = 2
            """, """
            rocket(0, 0, 0, 0); set(0, 1, 99); pass(1); of(0, 4) = 97; show 'dry 0' = 0; pass(1); of(0, 4) = 97
            show 'dry 96;dry 1' = 1; pass(1); of(0, 4) = 96; show 'dry 1;dry 95' = 2; pass(1); of(0, 4) = 1
            """);
    }

    private void sums() {
        s.term(3, "SUM of a ROCKET: twice SIZE, less DAMP by 10 (cut)", """
            rocket(0, 9, 0, 0); rocket(0, 9, 20, 0); rocket(0, 9, 1, 0); of(0, 6) = 0; of(1, 6) = 40; of(2, 6) = 2
            set(2, 1, 9); of(2, 6) = 2; set(2, 1, 10); of(2, 6) = 1; set(2, 1, 19); of(2, 6) = 1; set(2, 1, 20); of(2, 6) = 0
            set(2, 1, 29); of(2, 6) = 0; set(2, 1, 99); of(2, 6) = -7; set(1, 1, 99); of(1, 6) = 31
            """);
        s.term(3, "and the n of all bright whose E holds, less those of all dim, together (may be below 0).", """
            rocket(0, 0, 1, 0); show 'bright 5 p=0;bright 7 p=0;bright 90 p=1' = 0; of(0, 6) = 14
            show 'dim 1 p=0;dim 2 p=0;dim 90 p=1' = 1; of(0, 6) = -1; show 'dim 2 p=0' = 2; of(0, 6) = 0
            show 'dim 9 p=0;bright 4 p=0;dim 3 p=0;bright 1 p=0;dry 5' = 3; of(0, 6) = -5
            show 'bright 4 p=0;dim 4 p=0' = 4; of(0, 6) = 2
            """, """
            rocket(0, 0, 0, 0); set(0, 1, 99)
            show 'dim 99 p=0;dim 99 p=0;dim 99 p=0;dim 99 p=0;dim 99 p=0;dim 99 p=0;dim 99 p=0' = 0; of(0, 6) = -702
            show 'bright 99 p=0;bright 99 p=0;bright 99 p=0;bright 99 p=0;bright 99 p=0;bright 99 p=0' = 1
            of(0, 6) = 585
            """);
    }

    private void lights() {
        s.term(3, "LIGHT of a ROCKET (may be below 0): ROCKET: SUM.", """
            rocket(0, 9, 1, 0); set(0, 1, 10); of(0, 6) = 1; set(0, 1, 20); of(0, 6) = 0; set(0, 1, 30); of(0, 6) = -1
            rain(0, 9); of(0, 6) = -1
            """);
        s.term(3, "FOUNTAIN: SUM and v.", """
            rocket(1, 0, 0, 0); rocket(1, 1, 0, 0); rocket(1, 9, 0, 0); of(0, 6) = 0; of(1, 6) = 1; of(2, 6) = 9
            set(2, 1, 99); of(2, 6) = 0; set(1, 1, 20); of(1, 6) = -1
            """);
        s.term(3, "WHISTLE: the half (cut toward 0) of SUM.", """
            rocket(2, 9, 0, 0); of(0, 6) = 0; set(0, 1, 10); of(0, 6) = 0; set(0, 1, 20); of(0, 6) = -1; set(0, 1, 30)
            of(0, 6) = -1; set(0, 1, 90); of(0, 6) = -4; set(0, 0, 5); of(0, 6) = 0; set(0, 1, 80); of(0, 6) = 1
            set(0, 1, 70); of(0, 6) = 1; set(0, 1, 60); of(0, 6) = 2
            """);
        s.term(3, "FRAME: SUM; 0, if RAIN of the MINUTE is more than v.", """
            rocket(3, 0, 3, 0); rocket(3, 5, 3, 0); rocket(3, 9, 3, 0); of(0, 6) = 6; rain(0, 1); of(0, 6) = 0; of(1, 6) = 6
            rain(0, 4); of(1, 6) = 6; rain(0, 5); of(1, 6) = 6; rain(0, 6); of(1, 6) = 0; rain(0, 9); of(2, 6) = 6
            set(2, 1, 99); of(2, 6) = -3; set(1, 1, 99); of(1, 6) = 0; rain(0, 0); rain(1, 9); of(0, 6) = 6
            """);
        s.term(3, "CAKE: as FOUNTAIN, and twice how many ROCKETS are SEEN.", """
            rocket(4, 3, 1, 0); rocket(0, 0, 1, 0); rocket(0, 0, 0, 0); rocket(0, 0, 1, 0); rocket(0, 0, 1, 0)
            rocket(0, 0, 1, 0); of(0, 6) = 5; light(2) = 1; of(0, 6) = 5; light(1) = 2; of(0, 6) = 7; light(3); light(4)
            light(5); of(0, 6) = 13; light(0) = 2; of(0, 6) = 15
            """, """
            rocket(4, 0, 0, 0); of(0, 6) = 0; set(0, 1, 10); of(0, 6) = -1; rocket(0, 0, 1, 0); light(1); of(0, 6) = 1
            """);
        s.term(3, "WHEEL: as WHISTLE; twice that, if MINUTE modulo 3 is 0.", """
            rocket(5, 9, 3, 0); show 'dim 1 p=0' = 0; of(0, 6) = 4; pass(1); of(0, 6) = 2; pass(1); of(0, 6) = 2
            pass(1); of(0, 6) = 4; pass(1); of(0, 6) = 2; pass(2); of(0, 6) = 4; show 'dim 9 p=0' = 1; of(0, 6) = -2
            pass(1); of(0, 6) = -1; show 'dim 7 p=0' = 2; of(0, 6) = 0
            """);
        s.term(8, "TOLD: as FRAME, and its ROW (four numbers 0 .. 9; 0 at first) at MINUTE modulo 4 more.", """
            rocket(6, 5, 3, 0); of(0, 6) = 6; row(0, -1, 1) = NONE; row(0, 0, 1) = 0; row(0, 1, 2) = 0; row(0, 2, 3) = 0
            row(0, 3, 4) = 0; row(0, 4, 1) = NONE; of(0, 6) = 7; on(1, 20) = 8; on(2, 20) = 9; on(3, 20) = 10
            on(4, 20) = 7; on(5, 20) = 8; row(0, 0, -1) = BAD; row(0, 0, 0) = 1; of(0, 6) = 6; row(0, 0, 8) = 0
            row(0, 0, 9) = 8; row(0, 0, 10) = BAD; of(0, 6) = 15
            rain(0, 5); of(0, 6) = 15; rain(0, 6); of(0, 6) = 9; rain(0, 0); set(0, 0, 0); set(0, 1, 99); of(0, 6) = 0
            """);
    }

    private void lighting() {
        s.term(5, "To LIGHT one that is UNLIT: if its LIGHT is above 0, it is SEEN,", """
            rocket(0, 0, 1, 0); rocket(0, 0, 1, 0); rocket(0, 0, 1, 0); set(0, 1, 10); set(1, 1, 20); set(2, 1, 30)
            grieve(0, 50); of(0, 6) = 1; of(1, 6) = 0; of(2, 6) = -1; light(0) = 2; told(20) = 49; told(5) = 1
            light(1) = 1; light(2) = 1; told(20) = 49; told(5) = 1; told(4) = 0
            """);
        s.term(5, "and GRIEF of the one it is FOR is LIGHT less (0 at least);", """
            4 x rocket(0, 0, 5, 0); set(1, 2, 1); set(2, 2, 2); set(3, 2, 3); grieve(0, 9); grieve(1, 10); grieve(2, 11)
            grieve(3, 999); light(0) = 2; told(20) = 0; told(3) = 1020; light(1) = 2; told(21) = 0; light(2) = 2
            told(22) = 1; light(3) = 2; told(23) = 989; told(2) = 3
            """, "rocket(0, 0, 5, 2); light(0) = 2; told(22) = 0; told(3) = 0");
        s.term(5, "else it is FIZZED.", """
            rocket(0, 0, 0, 1); grieve(1, 5); light(0) = 1; of(0, 5) = 1; told(21) = 5; told(5) = 0; light(0) = STATE
            rocket(3, 8, 20, 1); rain(0, 9); light(1) = 1; of(1, 5) = 1; told(21) = 5
            rocket(0, 0, 0, 1); set(2, 1, 99); light(2) = 1; told(21) = 5
            """);
    }

    private void minutes() {
        s.term(12, "A MINUTE goes: DAMP of each one UNLIT is three times RAIN of the MINUTE more, and DRY less then", """
            rocket(0, 0, 1, 0); rocket(0, 0, 0, 0); rocket(0, 0, 1, 0); 2 x rocket(0, 0, 0, 0)
            set(0, 1, 10); set(1, 1, 10); set(2, 1, 10); set(3, 1, 10); set(4, 1, 50); light(0) = 2; light(1) = 1
            rain(0, 1); pass(1); of(0, 4) = 10; of(1, 4) = 10; of(2, 4) = 11; of(3, 4) = 11; of(4, 4) = 51
            rain(1, 9); pass(1); of(2, 4) = 36; of(0, 4) = 10; of(1, 4) = 10; pass(1); of(2, 4) = 34
            """);
        s.term(12, "(0 at least, 99 at most).", """
            6 x rocket(0, 0, 0, 0); set(1, 1, 1); set(2, 1, 2); set(3, 1, 3); set(4, 1, 4); pass(1)
            of(0, 4) = 0; of(1, 4) = 0; of(2, 4) = 0; of(3, 4) = 1; of(4, 4) = 2; pass(60); of(4, 4) = 0
            """, """
            6 x rocket(0, 0, 0, 0); rain(0, 9); set(0, 1, 73); set(1, 1, 74); set(2, 1, 75); set(3, 1, 98); set(4, 1, 99)
            pass(1); of(0, 4) = 98; of(1, 4) = 99; of(2, 4) = 99; of(3, 4) = 99; of(4, 4) = 99; of(5, 4) = 25
            """, """
            rocket(0, 0, 0, 0); rain(0, 9); show 'dry 27' = 0; set(0, 1, 80); pass(1); of(0, 4) = 80
            show 'dry 99' = 1; set(0, 1, 99); pass(3); of(0, 4) = 0; set(0, 1, 99); pass(1); of(0, 4) = 27
            """, """
            rocket(0, 0, 0, 0); set(0, 1, 99); show 'dry 98' = 0; pass(1); of(0, 4) = 1; set(0, 1, 99); show 'dry 99' = 1
            pass(1); of(0, 4) = 0; show 'dry 0' = 2; pass(1); of(0, 4) = 0; rain(3, 1); pass(1); of(0, 4) = 3
            """);
        s.term(12, "MINUTE is 1 more.", "pass(1) = 1; pass(2) = 3; pass(60) = 63; pass(0) = 63; told(0) = 63");
    }

    private void asked() {
        s.term(13, "All that follows is asked, goes on from how all is (MINUTES beyond 9999, too), and changes nothing.", """
            rocket(0, 0, 10, 0); show 'bright 9 m=0' = 0; 166 x pass(60); pass(39) = 9999; pass(1) = STATE
            on(0, 20) = 20; on(1, 20) = 29; on(11, 20) = 29; of(0, 7) = 1; of(0, 8) = 29; told(0) = 9999
            grieve(0, 40); best(1, -1) = 20; plan(0, 0); plan(1, 0); ends(0) = 11; mark(0, 1, 29); mark(0, 11, 29)
            wrong() = -5; can(0, 0) = 10; of(0, 10) = 1024; mark(0, 12, 29); wrong() = 2; told(0) = 9999
            """, """
            rocket(0, 0, 0, 0); show 'bright 9 m=0&p=0' = 0; 166 x pass(60); pass(39) = 9999; odds(0, 0) = 1; odds(0, 1) = 1
            rocket(0, 0, 1, 0); grieve(0, 12); best(2, 0) = 1; best(2, 1) = 0; best(2, -1) = 1; told(0) = 9999
            """);
        s.term(13, "ON n MINUTES (0 .. 60): DAMP of a ROCKET; LIGHT of one then.", """
            rocket(0, 0, 5, 0); set(0, 1, 99); show 'dry 1' = 0; on(-1, 10) = BAD; on(0, 10) = 99; on(1, 10) = 98
            on(59, 10) = 40; on(60, 10) = 39; on(61, 10) = BAD; on(-1, 20) = BAD; on(0, 20) = 1; on(59, 20) = 6
            on(60, 20) = 7; on(61, 20) = BAD; on(MIN, 20) = BAD; on(MAX, 10) = BAD; of(0, 4) = 99; told(0) = 0
            """);
    }

    private void brightest() {
        s.term(3, "BRIGHTEST of one: the fewest MINUTES (0 .. 20) behind which its LIGHT is greatest of all these;", """
            rocket(0, 0, 0, 0); of(0, 7) = 0; set(0, 1, 10); of(0, 7) = 1; set(0, 1, 47); of(0, 7) = 19; set(0, 1, 49)
            of(0, 7) = 20; set(0, 1, 50); of(0, 7) = 16; set(0, 1, 9); of(0, 7) = 0; rain(0, 9); of(0, 7) = 0
            """, """
            rocket(0, 0, 0, 0); show 'bright 5 m=0;dry 0' = 0; of(0, 7) = 0; pass(1); of(0, 7) = 9; pass(8); of(0, 7) = 1
            """, """
            rocket(6, 0, 0, 0); rain(1, 1); row(0, 1, 5); row(0, 3, 5); of(0, 7) = 1; row(0, 3, 6); of(0, 7) = 3
            light(0) = 1; of(0, 7) = 3
            """);
        s.term(3, "that LIGHT.", """
            rocket(0, 0, 0, 0); of(0, 8) = 0; set(0, 1, 49); of(0, 8) = 0; set(0, 1, 50); of(0, 8) = -1; set(0, 1, 99)
            of(0, 7) = 20; of(0, 8) = -5; set(0, 0, 20); of(0, 8) = 35; light(0) = 2; of(0, 8) = 31; of(0, 7) = 0
            """);
    }

    private void rows() {
        s.term(14, "in which row to light rockets so that most are even",
            "rocket(0, 0, 1, 0); rocket(0, 0, 9, 0); rocket(0, 0, 2, 1); grieve(0, 99); grieve(1, 4); best(1, 0) = 2; best(2, 1) = 2");
        s.term(14, "ROW of n (1 .. 3): of all rows of n ROCKETS that are UNLIT, none twice,", """
            3 x rocket(0, 0, 1, 0); rocket(0, 0, 9, 0); grieve(0, 100); best(0, -2) = BAD; best(1, 0) = 3; best(2, 0) = 0
            best(2, 1) = 3; best(3, 0) = 0; best(3, 1) = 1; best(3, 2) = 3; best(4, 0) = BAD; best(-1, 0) = BAD
            light(3); best(1, 0) = 0; best(2, 0) = 0; best(2, 1) = 1; best(3, 2) = 2; best(3, -1) = 76
            """);
        s.term(14, "by which, one lit just ahead of each of n MINUTES, most PEOPLE are EVEN behind these,", """
            rocket(0, 0, 5, 0); rocket(0, 0, 20, 1); grieve(0, 10); grieve(1, 30); best(1, 0) = 1; best(1, -2) = 3
            grieve(1, 41); best(1, 0) = 0; best(1, -2) = 3; best(2, -2) = 3; rain(0, 9); best(2, 0) = 0; best(2, 1) = 1
            grieve(1, 40); grieve(0, 9); best(2, 0) = 1; best(2, -2) = 3; best(2, -1) = 1
            """, """
            rocket(0, 0, 1, 0); grieve(0, 3); grieve(1, 1); grieve(2, 1); grieve(3, 1); best(1, -2) = 0; best(1, -1) = 4
            grieve(0, 2); best(1, -2) = 1; grieve(1, 0); grieve(2, 0); grieve(3, 0); best(1, -2) = 4; best(1, -1) = 0
            """, """
            rocket(0, 0, 1, 0); rocket(0, 0, 1, 0); grieve(0, 50); show 'bright 9 m=1&p=0' = 0; best(1, -1) = 48
            best(2, 0) = 1; best(2, 1) = 0; best(2, -1) = 37; show 'bright 9 m=2&p=0' = 1; best(2, 0) = 0; best(2, -1) = 46
            """);
        s.term(14, "of these that by which GRIEF of all, together, is least (of several the first as a row of numbers):", """
            rocket(0, 0, 2, 0); rocket(0, 0, 3, 1); rocket(0, 0, 3, 2); rocket(0, 0, 3, 2); grieve(0, 50); grieve(1, 50)
            grieve(2, 50); best(1, 0) = 1; best(1, -1) = 144; best(2, 0) = 1; best(2, 1) = 2; best(3, 0) = 1; best(3, 1) = 2
            best(3, 2) = 3; best(3, -1) = 132; set(0, 0, 3); best(3, 0) = 0; best(3, 1) = 1; best(3, 2) = 2
            grieve(0, 7); grieve(2, 9); best(1, 0) = 0; grieve(0, 6); best(1, 0) = 0; best(1, -2) = 2
            """);
        s.term(14, "how many; GRIEF; the k-th (-5, all: there are fewer than n).", """
            best(1, -2) = -5; best(1, -1) = -5; best(1, 0) = -5; best(3, 2) = -5; rocket(0, 0, 1, 0); best(1, -2) = 4
            best(1, -1) = 0; best(1, 0) = 0; best(2, -2) = -5; best(2, -1) = -5; best(2, 0) = -5; best(2, 1) = -5
            rocket(0, 0, 1, 0); best(2, -2) = 4; best(2, -1) = 0; best(2, 1) = 1; best(3, -2) = -5; best(3, -1) = -5
            best(3, 0) = -5; best(3, 1) = -5; best(3, 2) = -5; rocket(0, 0, 1, 0); best(3, -2) = 4; best(3, 2) = 2
            light(1); best(3, -2) = -5; best(2, 1) = 2
            """);
    }

    private void enough() {
        s.term(11, "ENOUGH for one of PEOPLE: the set with the fewest ROCKETS that are UNLIT"
            + " (as bits; of several the least as bits)", """
            told(30) = 0; 6 x rocket(0, 0, 1, 0); told(30) = 0; grieve(0, 1); told(30) = 1; grieve(0, 2); told(30) = 1
            grieve(0, 3); told(30) = 3; grieve(0, 11); told(30) = 63; grieve(0, 12); told(30) = 63; light(5)
            told(30) = 31; light(0); light(1); grieve(0, 1); told(30) = 4; set(4, 0, 2); told(30) = 4; grieve(0, 3)
            told(30) = 16; set(4, 0, 1); told(30) = 12
            """);
        s.term(11, "by which, all of it lit now, one behind the other by number, whomever they are FOR, that one is EVEN"
            + " (-5: none).", """
            grieve(2, 1); told(32) = -5; rocket(0, 0, 1, 3); told(32) = -5; rocket(4, 0, 1, 2); rocket(0, 0, 1, 3)
            grieve(2, 2); told(32) = 2; grieve(2, 3); told(32) = 3; grieve(2, 4); told(32) = 3; grieve(2, 5); told(32) = -5
            told(30) = 0; grieve(3, 4); told(33) = 5; grieve(3, 5); told(33) = -5; rain(0, 9); told(32) = -5; told(2) = 3
            """);
    }

    private void gift() {
        s.term(3, "GIFT of a ROCKET: to whom of PEOPLE it should be (were it FOR that one now), so that,"
            + " all UNLIT ones lit now, one behind the other by number, most PEOPLE are EVEN,", """
            rocket(0, 0, 5, 0); of(0, 9) = 0; grieve(3, 10); of(0, 9) = 3; grieve(1, 10); of(0, 9) = 1; grieve(1, 11)
            of(0, 9) = 3; of(0, 3) = 0; grieve(0, 999); grieve(3, 9); of(0, 9) = 3
            """, """
            rocket(0, 0, 5, 0); rocket(4, 0, 0, 3); grieve(1, 10); grieve(2, 2); of(1, 9) = 2; of(0, 9) = 1; grieve(2, 3)
            of(1, 9) = 1; light(0); grieve(1, 2); of(1, 9) = 1; set(0, 2, 1); of(0, 9) = 0
            """);
        s.term(3, "of these that by which GRIEF of all is least (of several the first).", """
            rocket(0, 0, 5, 0); grieve(1, 20); grieve(2, 20); of(0, 9) = 1; grieve(1, 8); grieve(2, 9); of(0, 9) = 2
            grieve(3, 10); of(0, 9) = 3; grieve(2, 10); of(0, 9) = 2; light(0) = 2; of(0, 9) = 0; of(0, 3) = 0
            """, """
            rocket(0, 0, 0, 3); grieve(1, 5); grieve(3, 5); of(0, 9) = 0; set(0, 0, 1); of(0, 9) = 1; grieve(1, 0); of(0, 9) = 3
            """);
    }

    private void marked() {
        s.term(15, "MARKED told by hand: a ROCKET, MINUTES n (0 .. 12) from now,", """
            rocket(0, 0, 5, 0); set(0, 1, 99); show 'dry 9' = 0; mark(0, -1, 1) = BAD; mark(0, 0, 1) = 1; mark(0, 1, 1) = 2
            mark(0, 11, 10) = 3; mark(0, 12, 10) = 4; mark(0, 13, 10) = BAD; wrong() = -5; count(2) = 4; set(0, 1, 90)
            wrong() = 1
            """, """
            rocket(0, 0, 0, 0); show 'bright 7 m=2' = 0; mark(0, 12, 7) = 1; wrong() = -5; mark(0, 11, 7) = 2; wrong() = 1
            """, """
            rocket(0, 0, 0, 0); show 'bright 7 m=2' = 0; mark(0, 1, 7) = 1; wrong() = 0; pass(1); wrong() = -5; pass(1)
            wrong() = 0
            """);
        s.term(15, "its LIGHT then (0 .. 999, as 0 if below; 5 rows at most).", """
            rocket(0, 0, 0, 0); mark(0, 0, -1) = BAD; mark(0, 0, 0) = 1; wrong() = -5; mark(0, 0, 1) = 2; wrong() = 1
            mark(0, 0, 998) = 3; mark(0, 0, 999) = 4; mark(0, 0, 1000) = BAD; mark(0, 0, 0) = 5; mark(0, 0, 0) = FULL
            count(2) = 5; wrong() = 1; mark(-1, 0, 0) = 0; count(2) = 0; wrong() = -5
            """, """
            rocket(0, 0, 0, 0); mark(0, 0, 0) = 1; set(0, 1, 9); wrong() = -5; set(0, 1, 10); of(0, 6) = -1; wrong() = -5
            set(0, 1, 99); wrong() = -5; set(0, 0, 5); of(0, 6) = 1; wrong() = 0
            """);
        s.term(3, "SIZES of one: those numbers 0 .. 20, as bits, by which, were that its SIZE,"
            + " all of MARKED that is of it is so.", """
            rocket(0, 0, 7, 0); rocket(0, 0, 7, 0); of(0, 10) = 2097151; mark(0, 0, 0); of(0, 10) = 1; of(1, 10) = 2097151
            mark(-1, 0, 0); mark(0, 0, 40); of(0, 10) = 1048576; mark(1, 0, 2); of(0, 10) = 1048576; of(1, 10) = 2
            mark(0, 0, 40); of(0, 10) = 1048576; mark(0, 0, 38); of(0, 10) = 0; mark(-1, 0, 0); mark(0, 0, 41)
            of(0, 10) = 0; of(0, 2) = 7
            """, """
            rocket(0, 0, 7, 0); mark(0, 0, 0); set(0, 1, 40); of(0, 10) = 7; show 'bright 1 s=1' = 0; of(0, 10) = 7
            show 'bright 3 s=1' = 1; of(0, 10) = 5; show 'dim 99 s=20' = 2; of(0, 10) = 1048583
            """);
        s.term(17, "CAN of one: how many numbers v (0 .. 9) likewise; the least (-5: none).", """
            rocket(1, 5, 0, 0); rocket(3, 5, 4, 0); can(0, 0) = 10; can(0, 1) = 0; mark(0, 0, 0); can(0, 0) = 1
            can(0, 1) = 0; mark(-1, 0, 0); mark(0, 0, 9); can(0, 0) = 1; can(0, 1) = 9; can(1, 0) = 10; mark(-1, 0, 0)
            mark(0, 0, 10); can(0, 0) = 0; can(0, 1) = -5; rain(0, 9); mark(1, 0, 8); can(1, 0) = 1; can(1, 1) = 9
            rain(0, 1); can(1, 0) = 9; can(1, 1) = 1; mark(1, 0, 7); can(1, 0) = 0; can(1, 1) = -5; of(1, 1) = 5
            """);
        s.term(16, "FALSE: the first row of MARKED that is not so (-5: all are).", """
            rocket(0, 0, 1, 0); rocket(0, 0, 2, 0); wrong() = -5; mark(0, 0, 2); mark(1, 0, 4); wrong() = -5; mark(0, 0, 2)
            mark(0, 0, 2); mark(1, 0, 5); wrong() = 4; set(1, 0, 1); wrong() = 1; set(0, 0, 2); wrong() = 0; mark(-1, 0, 0)
            wrong() = -5
            """);
    }

    private void odds() {
        s.term(18, "ODDS of a ROCKET: if RAIN of this MINUTE is any of 0 .. 9, each alike likely: how likely its LIGHT"
            + " (whatever its STATE is) is above 0 behind this MINUTE: a fraction in lowest terms.", """
            rocket(0, 0, 1, 0); odds(0, 0) = 4; odds(0, 1) = 5; set(0, 1, 21); odds(0, 0) = 1; odds(0, 1) = 10
            set(0, 1, 22); odds(0, 0) = 0; odds(0, 1) = 1; set(0, 1, 6); odds(0, 0) = 3; odds(0, 1) = 5; rain(0, 9)
            odds(0, 0) = 3; set(0, 1, 9); odds(0, 0) = 1; odds(0, 1) = 2; set(0, 0, 2); odds(0, 0) = 1; odds(0, 1) = 1
            set(0, 1, 14); odds(0, 0) = 1; set(0, 1, 15); odds(0, 0) = 9; odds(0, 1) = 10; told(10) = 9
            """, """
            rocket(0, 0, 1, 0); set(0, 1, 19); light(0) = 2; odds(0, 0) = 1; odds(0, 1) = 1; set(0, 1, 20); odds(0, 0) = 0
            rocket(3, 0, 1, 0); rain(0, 9); odds(1, 0) = 4; rain(1, 1); odds(1, 0) = 0; rocket(0, 0, 0, 0); light(2) = 1
            odds(2, 0) = 0; odds(2, 1) = 1; show 'bright 1 m=1' = 0; odds(2, 0) = 1; show 'bright 1 m=0' = 1; odds(2, 0) = 0
            """);
        s.term(19, "MEAN: GRIEF of all PEOPLE, together, by how many are not EVEN: a fraction in lowest terms (NO: all are).", """
            mean(0) = NO; mean(1) = NO; grieve(2, 1); mean(0) = 1; mean(1) = 1; grieve(0, 2); mean(0) = 3; mean(1) = 2
            grieve(0, 999); mean(0) = 500; mean(1) = 1; grieve(1, 1); grieve(3, 1); mean(0) = 501; mean(1) = 2
            grieve(3, 2); mean(0) = 1003; mean(1) = 4; grieve(1, 999); grieve(2, 999); grieve(3, 999); mean(0) = 999
            mean(1) = 1; grieve(0, 0); grieve(1, 0); grieve(2, 0); grieve(3, 0); mean(0) = NO; mean(1) = NO
            """);
    }

    private void plans() {
        s.term(20, "A PLAN told by hand: what goes (0 a MINUTE, 1 a ROCKET is lit, if it is UNLIT, 2 its DAMP is 0,"
            + " 3 it is UNLIT; 10 rows at most):", """
            rocket(0, 0, 5, 0); set(0, 1, 30); grieve(0, 100); plan(-2, 0) = NONE; plan(1, 0) = 1; ends(0) = 93; ends(1) = 1
            plan(1, 0) = 2; ends(0) = 93; plan(3, 0) = 3; ends(1) = 0; plan(2, 0) = 4; plan(1, 0) = 5; ends(0) = 83
            plan(3, 0) = 6; plan(0, 0) = 7; plan(1, 0) = 8; ends(0) = 73; plan(3, 0) = 9; plan(1, 0) = 10; ends(0) = 63
            plan(1, 0) = FULL; plan(4, 0) = NONE; count(3) = 10; ends(0) = 63; ends(1) = 1; told(20) = 100
            """, """
            rocket(0, 0, 5, 0); grieve(0, 100); rain(0, 9); rain(1, 9); 8 x plan(0, 0); plan(1, 0) = 9; ends(0) = 99
            plan(-1, 0) = 0; 9 x plan(0, 0); plan(1, 0) = 10; ends(0) = 99; ends(1) = 1; told(0) = 0; on(8, 10) = 92
            on(9, 10) = 99
            """, """
            rocket(0, 0, 5, 0); grieve(0, 50); set(0, 1, 99); rain(0, 4); plan(2, 0); plan(0, 0); plan(1, 0); ends(0) = 41
            show 'dry 3' = 0; ends(0) = 40; of(0, 4) = 99
            """);
        s.term(21, "ENDS: GRIEF of all, together; which ROCKETS are SEEN (bits).", """
            ends(0) = 0; ends(1) = 0; 6 x rocket(0, 0, 1, 0); set(5, 0, 0); grieve(0, 20); grieve(3, 999); ends(0) = 1019
            light(1); ends(1) = 2; ends(0) = 1017; plan(1, 0); plan(1, 4); plan(1, 5); ends(1) = 19; ends(0) = 1013
            plan(3, 1); ends(1) = 17; ends(0) = 1013; told(5) = 2; told(3) = 1017
            """, "rocket(0, 0, 20, 0); grieve(0, 40); plan(1, 0); ends(0) = 0; grieve(0, 39); ends(0) = 0; grieve(0, 41); ends(0) = 1");
        s.term(22, "A BOOK told by hand: ROCKETS, DAMP (0 .. 99; 8 at most):", """
            rocket(0, 0, 0, 0); book(0, -1) = BAD; book(0, 0) = 1; looked() = -5; book(0, 1) = 2; looked() = 1
            book(-1, 0) = 0; set(0, 1, 99); book(0, 100) = BAD; book(0, 99) = 1; looked() = -5; book(0, 98) = 2
            looked() = 1; 4 x book(0, 99); book(0, 99) = 7; book(0, 99) = 8; book(0, 99) = FULL; count(4) = 8
            """);
        s.term(23, "LOOKED at: the number of the first of these rows by which it is otherwise now (-5: none).", """
            looked() = -5; rocket(0, 0, 0, 0); rocket(0, 0, 0, 0); set(1, 1, 5); looked() = -5; book(0, 0); book(1, 5)
            5 x book(0, 0); looked() = -5; book(1, 6) = 8; looked() = 7; set(1, 1, 6); looked() = 1; set(0, 1, 1)
            looked() = 0; set(0, 1, 0); set(1, 1, 5); looked() = 7; pass(1); looked() = 1
            """);
    }

    private void acts() {
        String six = "rocket(0, 9, 0, 0); rocket(1, 9, 0, 0); rocket(2, 9, 0, 0); rocket(3, 9, 0, 0); rocket(4, 9, 0, 0);"
            + " rocket(5, 9, 0, 0);";
        s.term(27, "ACTS of a ROCKET with x (wrapping): 0 hisses, 1 climbs, 2 tells; i its number.", six + """
            act(1, 0, MAX) = MIN; act(1, 0, 2147483646) = MAX; act(0, 1, MIN) = 2147483639; act(0, 1, -2147483639) = MIN
            act(0, 2, 1073741832) = 2147483646; act(0, 2, 1073741833) = MIN; act(0, 2, 2147483647) = -20
            act(2, 0, 715827881) = 2147483645; act(2, 0, 715827882) = MIN; act(2, 0, 715827883) = -2147483645
            act(4, 0, 2147483644) = MIN; act(1, -1, 5) = 0; act(1, 0, 5) = 6; act(1, 1, 5) = -5
            act(1, 2, 5) = -10; act(1, 3, 5) = 0; act(5, 0, 1) = 8; act(6, 0, 1) = 0
            """);
        s.term(27, "ROCKET: 10 hisses: x + i. 11 climbs: hisses(x) - v. 12 tells: climbs(x) * 2.",
            "rocket(1, 0, 0, 0); rocket(0, 3, 0, 0); act(1, 0, 5) = 6; count(6) = 1; trace(0) = 10; act(1, 1, 5) = 3"
                + "; count(6) = 2; trace(0) = 11; trace(1) = 10; act(1, 2, 5) = 6; count(6) = 3; trace(0) = 12; trace(1) = 11"
                + "; trace(2) = 10");
        s.term(27, "FOUNTAIN: 20 climbs: super.climbs(x) ^ 6.",
            "rocket(0, 0, 0, 0); rocket(1, 3, 0, 0); act(1, 1, 5) = 5; count(6) = 3; trace(0) = 20; trace(1) = 11"
                + "; trace(2) = 10; act(1, 0, 5) = 6; trace(0) = 10; act(1, 2, 5) = 10; count(6) = 4; trace(1) = 20");
        s.term(27, "WHISTLE: 30 hisses: super.hisses(x * 3).",
            "rocket(0, 0, 0, 0); rocket(2, 3, 0, 0); act(1, 0, 5) = 16; count(6) = 2; trace(0) = 30; trace(1) = 10"
                + "; act(1, 1, 5) = 13; count(6) = 3; trace(0) = 11; trace(1) = 30");
        s.term(27, "FRAME: 40 tells: super.tells(x) + climbs(1).",
            "rocket(0, 0, 0, 0); rocket(3, 3, 0, 0); act(1, 2, 5) = 5; count(6) = 6; trace(0) = 40; trace(1) = 12; trace(2) = 11"
                + "; trace(3) = 10; trace(4) = 11; trace(5) = 10; trace(6) = NONE; act(1, 2, 1073741826) = MAX");
        s.term(27, "CAKE: 50 hisses: -super.hisses(x). 51 climbs: super.climbs(x + 1).",
            "rocket(0, 0, 0, 0); rocket(4, 3, 0, 0); act(1, 0, 5) = -6; count(6) = 2; trace(0) = 50; trace(1) = 10"
                + "; act(1, 1, 5) = -16; count(6) = 5; trace(0) = 51; trace(1) = 20; trace(2) = 11; trace(3) = 50; trace(4) = 10"
                + "; act(1, 1, MAX) = 2147483642");
        s.term(27, "WHEEL: 60 tells: super.tells(x - i).",
            "rocket(0, 0, 0, 0); rocket(5, 3, 0, 0); act(1, 2, 5) = 20; count(6) = 5; trace(0) = 60; trace(1) = 12"
                + "; trace(2) = 11; trace(3) = 30; trace(4) = 10; act(1, 2, MIN) = -10; act(1, 0, 5) = 16; act(1, 1, 5) = 13");
        s.term(27, "TOLD: 70 climbs: super.climbs(x) + super.hisses(2). 71 hisses: super.hisses(x) ^ v.",
            "rocket(0, 0, 0, 0); rocket(6, 3, 0, 0); act(1, 0, 5) = 5; count(6) = 2; trace(0) = 71; trace(1) = 10"
                + "; act(1, 1, 5) = 5; count(6) = 5; trace(0) = 70; trace(1) = 11; trace(2) = 71; trace(3) = 10; trace(4) = 10");
        s.term(27, "hisses(..) and so on: the body of its KIND, or, if that has none, of the next KIND above that has one;"
            + " super.hisses(..): so from the KIND above the body's on; all that stands in a body is done from the left on.",
            "rocket(6, 3, 0, 0); act(0, 2, 5) = 11; count(6) = 12; trace(0) = 40; trace(1) = 12; trace(2) = 70; trace(3) = 11"
                + "; trace(4) = 71; trace(5) = 10; trace(6) = 10; trace(7) = 70; trace(8) = 11; trace(9) = 71; trace(10) = 10"
                + "; trace(11) = 10",
            "rocket(4, 3, 0, 0); act(0, 2, 5) = -30; count(6) = 6; trace(0) = 12; trace(1) = 51; trace(2) = 20; trace(3) = 11"
                + "; trace(4) = 50; trace(5) = 10");
    }

    private void trace() {
        s.term(28, "THE TRACE: the numbers of the bodies that ran in the latest act(), as they began; the first 20 are kept.", """
            trace(0) = NONE; count(6) = 0; rocket(6, 0, 0, 0); act(0, 2, 0); count(6) = 12; trace(-1) = NONE; trace(0) = 40
            trace(11) = 10; trace(12) = NONE; trace(19) = NONE; trace(20) = NONE; act(0, 0, 0); count(6) = 2; trace(0) = 71
            trace(1) = 10; trace(2) = NONE; act(0, 3, 0) = 0; count(6) = 0; trace(0) = NONE
            """);
    }

    private void image() {
        s.term(25, "THE IMAGE: GRIEF of all, RAIN, ROCKETS with all that is theirs, MINUTE, MARKED, the PLAN, the BOOK,"
            + " which SHOW holds.", """
            grieve(0, 1); grieve(3, 999); image() = 0; grieve(0, 2); grieve(1, 3); grieve(3, 0); undo() = 0; told(20) = 1
            told(21) = 0; told(23) = 999
            """, """
            rain(0, 1); rain(3, 9); image() = 0; rain(0, 2); rain(1, 3); rain(3, 0); undo() = 0; told(10) = 1; told(11) = 0
            told(13) = 9
            """, """
            rocket(6, 3, 4, 1); set(0, 1, 20); row(0, 0, 5); row(0, 3, 7); rocket(0, 0, 0, 0); light(1) = 1; image() = 2
            set(0, 0, 9); set(0, 1, 50); set(0, 2, 2); row(0, 0, 1); row(0, 1, 1); row(0, 3, 1); light(0); rocket(1, 1, 1, 1)
            undo() = 2; of(0, 0) = 6; of(0, 1) = 3; of(0, 2) = 4; of(0, 3) = 1; of(0, 4) = 20; of(0, 5) = 0; of(1, 5) = 1
            row(0, 0, 0) = 5; row(0, 1, 0) = 0; row(0, 3, 0) = 7; of(2, 0) = -10001; count(0) = 2; rocket(0, 0, 0, 0) = 2
            of(2, 1) = 0; of(2, 3) = 0; of(2, 0) = 0
            """, "pass(7); image() = 0; pass(60); undo() = 0; told(0) = 7; pass(1) = 8; undo(); told(0) = 7", """
            rocket(0, 0, 1, 0); mark(0, 0, 2); mark(0, 0, 3); image() = 1; mark(0, 0, 9); mark(-1, 0, 0); mark(0, 0, 8)
            undo(); count(2) = 2; wrong() = 1; mark(0, 0, 2) = 3; undo(); count(2) = 2
            """, """
            rocket(0, 0, 4, 0); rocket(0, 0, 5, 0); set(1, 1, 11); mark(1, 1, 10); image() = 2; mark(-1, 0, 0); mark(0, 0, 4)
            undo(); wrong() = -5
            """, """
            rocket(0, 0, 1, 0); grieve(0, 9); plan(1, 0); plan(0, 0); image() = 1; plan(-1, 0); plan(0, 0); plan(0, 0); plan(0, 0)
            undo(); count(3) = 2; ends(0) = 7; ends(1) = 1
            """, """
            2 x rocket(0, 0, 5, 0); plan(1, 1); image() = 2; plan(-1, 0); plan(1, 0); ends(1) = 1; undo(); ends(1) = 2
            """, """
            rocket(0, 0, 1, 0); book(0, 0); book(0, 4); image() = 1; book(-1, 0); book(0, 9); undo(); count(4) = 2; looked() = 1
            set(0, 1, 4); looked() = 0
            """, """
            2 x rocket(0, 0, 5, 0); set(1, 1, 5); book(1, 5); image() = 2; book(-1, 0); book(0, 5); looked() = 0; undo()
            looked() = -5
            """, """
            image() = 0; show 'dry 5' = 0; image() = 0; show 'dry 6' = 1; told(1) = 6; undo(); told(1) = 5; count(1) = 2
            show 'dry 7' = 2; told(1) = 7; undo(); told(1) = 5
            """);
    }

    private void tapes() {
        s.term(31, "TAPES 0 .. 5 hold nothing (at first), or a row of 0 bytes, 1 shorts, 2 ints, 3 longs, 4 booleans (items 0, 1).", """
            item(-1, 0, 1) = NONE; item(0, 0, 1) = NOTHING; item(5, 0, 1) = NOTHING; item(6, 0, 1) = NONE; read(0, 0) = NO
            read(5, 0) = NO; tape(-1, 0, 1) = NONE; tape(0, 0, 1) = 1; tape(5, 4, 1) = 1; tape(6, 0, 1) = NONE
            tape(1, -2, 1) = BAD; tape(1, 5, 1) = BAD; read(0, 0) = 0; read(5, 0) = 0
            """, """
            tape(0, 0, 2); item(0, 0, 127); read(0, 0) = 127; item(0, 0, 128); read(0, 0) = -128; item(0, 1, -129)
            read(0, 1) = 127; item(0, 1, -128); read(0, 1) = -128; item(0, 1, 256); read(0, 1) = 0
            """, """
            tape(1, 1, 2); item(1, 0, 32767); read(1, 0) = 32767; item(1, 0, 32768); read(1, 0) = -32768; item(1, 1, -32769)
            read(1, 1) = 32767; item(1, 1, 65536); read(1, 1) = 0; item(1, 1, 128); read(1, 1) = 128
            """, """
            tape(2, 2, 2); item(2, 0, MAX); read(2, 0) = MAX; item(2, 0, 2147483648); read(2, 0) = MIN
            item(2, 1, -2147483649); read(2, 1) = MAX; item(2, 1, 4294967296); read(2, 1) = 0; item(2, 1, 32768)
            read(2, 1) = 32768
            """, """
            tape(3, 3, 2); item(3, 0, LMAX); read(3, 0) = LMAX; item(3, 1, -9223372036854775807)
            read(3, 1) = -9223372036854775807; item(3, 1, 2147483648); read(3, 1) = 2147483648
            """, """
            tape(4, 4, 2); item(4, 0, 1); read(4, 0) = 1; item(4, 0, 0); read(4, 0) = 0; item(4, 1, -1); read(4, 1) = 1
            item(4, 1, 2); read(4, 1) = 1; item(4, 0, 4294967296); read(4, 0) = 1; item(4, 0, LMIN); read(4, 0) = 1
            """);
    }

    private void judged() {
        String griefs = "grieve(0, 5); grieve(1, 6); grieve(2, 7); grieve(3, 999);";
        s.term(24, "GRIEF told by a row of shorts, from a place on, one of PEOPLE by one, is JUDGED:"
            + " the first that is otherwise; -5: none;", griefs + """
            tape(0, 1, 5); item(0, 0, 5); item(0, 1, 6); item(0, 2, 7); item(0, 3, 999); item(0, 4, 1); judge(0, 0) = -5
            item(0, 3, 998); judge(0, 0) = 3; item(0, 2, -7); judge(0, 0) = 2; item(0, 1, 0); judge(0, 0) = 1; item(0, 0, 4)
            judge(0, 0) = 0; item(0, 1, 5); item(0, 2, 6); item(0, 3, 7); item(0, 4, 999); judge(0, 1) = -5; judge(0, 2) = 0
            """);
        s.term(24, "100 and how many were looked at, if the row ends ahead of that"
            + " (or the place is below 0, or the TAPE holds nothing).", griefs + """
            judge(0, 0) = 100; judge(0, -1) = 100; tape(0, 1, 0); judge(0, 0) = 100; tape(0, 1, 3); item(0, 0, 5)
            item(0, 1, 6); item(0, 2, 7); judge(0, 0) = 103; judge(0, 1) = 0; item(0, 1, 5); item(0, 2, 6); judge(0, 1) = 102
            item(0, 2, 5); judge(0, 2) = 101; judge(0, 3) = 100; judge(0, 4) = 100; judge(0, MAX) = 100; judge(0, -1) = 100
            judge(0, MIN) = 100; judge(0, 1) = 1
            """);
    }

    private void answers() {
        s.term(34, "The host's refusals: NOTHING (-11): nothing is there;",
            "item(0, 0, 0) = -11; shift(0, 0, 1, 0, 0) = -11; taken(0, 0) = -11; tape(0, 0, 1); item(0, 0, 0) = 1");
        s.term(34, "CAST (-12): another sort or KIND;",
            "rocket(0, 0, 0, 0); taken(0, 1) = -12; tape(0, 0, 1); tape(1, 1, 1); shift(0, 0, 1, 0, 1) = -12; judge(0, 0) = -12");
        s.term(34, "PLACE (-13): no such place;", "tape(0, 0, 1); item(0, 0, 7); item(0, 1, 0) = -13; item(0, -1, 0) = -13"
            + "; shift(0, 0, 0, 1, 1) = -13; read(0, 0) = 7");
        s.term(31, "SIZE (-14): a size below 0.", "tape(0, 0, -1) = -14; tape(0, 0, MIN) = -14; tape(0, 0, 0) = 1; read(0, 0) = NO"
            + "; tape(0, 0, -1) = SIZE; item(0, 0, 0) = PLACE");
        s.term(2, "NONE (-1) no such number;", "rocket(7, 0, 0, 0) = -1; light(0) = -1; told(6) = -1; trace(0) = -1");
        s.due("NONE", FireApologies.NONE, -1);
        s.term(2, "BAD (-2) a number is not as told;", "rocket(0, 10, 0, 0) = -2; grieve(0, 1000) = -2; count(7) = -2");
        s.due("BAD", FireApologies.BAD, -2);
        s.term(5, "STATE (-3) as told;", "undo() = -3; rocket(0, 0, 0, 0); light(0); light(0) = -3; row(0, 0, 0) = -3");
        s.due("STATE", FireApologies.STATE, -3);
        s.term(2, "FULL (-4);", "6 x rocket(0, 0, 0, 0); rocket(0, 0, 0, 0) = -4");
        s.due("FULL", FireApologies.FULL, -4);
        firstNamed();
        s.term(3, "Where it may be below 0, -10001 stands for NONE.", """
            of(0, 6) = -10001; on(0, 20) = -10001; rocket(0, 0, 0, 0); show 'dim 1 p=0' = 0; of(0, 6) = -1; on(0, 20) = -1
            of(0, 8) = -1; of(0, 11) = -10001; of(1, 0) = -10001; on(0, 21) = -10001; show 'dim 2 p=0' = 1; of(0, 6) = -2
            """);
        s.term(2, "What is answered so changes nothing; what is asked changes nothing.", """
            rocket(6, 3, 5, 1); rocket(4, 3, 5, 1); grieve(1, 50); rain(0, 3); row(0, 1, 4); show 'bright 3 p=0;dry 5' = 0
            set(0, 1, 40); mark(0, 3, 5); plan(0, 0); plan(1, 0); book(0, 40); image(); tape(0, 1, 4); item(0, 1, 50); act(0, 2, 9)
            feed 'dry'; of(0, 7) = 17; of(1, 8) = 13; of(0, 9) = 1; of(0, 10) = 0; told(31) = -5; on(9, 10) = 22; best(2, 1) = 0
            wrong() = 0; can(0, 0) = 0; odds(0, 0) = 1; mean(0) = 50; ends(1) = 1; looked() = -5; judge(0, 0) = -5
            trace(3) = 11; taken(1, 1) = 4; count(6) = 12; read(0, 1) = 50
            """);
        s.term(18, "The constants: `NO = Long.MIN_VALUE`: There is no such number.",
            "odds(0, 0) = LMIN; mean(0) = LMIN; read(0, 0) = LMIN");
        s.due("NO", FireApologies.NO, Long.MIN_VALUE);
    }

    private void firstNamed() {
        s.term(2, "the first that a call's words name.",
            "rocket(7, 10, 21, 4) = NONE; rocket(0, 10, 0, 4) = NONE; 6 x rocket(0, 0, 0, 0); rocket(7, 0, 0, 0) = NONE"
                + "; rocket(0, 0, 0, -1) = NONE; rocket(0, 10, 0, 0) = BAD; rocket(0, 0, 21, 0) = BAD; rocket(0, 0, 0, 0) = FULL",
            "set(0, 0, 21) = NONE; grieve(4, 1000) = NONE; rain(4, 10) = NONE; rocket(0, 0, 0, 0); set(0, 3, -1) = NONE"
                + "; row(0, 4, 10) = NONE; row(1, 0, 10) = NONE; row(0, 0, 10) = BAD; row(0, 0, 9) = STATE; light(0); light(1) = NONE",
            "feed '" + HUNDRED + "' = 100; feed(128) = BAD; feed(127) = FULL",
            "show 'dry 1'; show 'dry 1'; show 'dry 1'; show 'dry 1'; show 'dry 1'; show 'dry 1'; feed 'x'; show() = FULL",
            "166 x pass(60); pass(61) = BAD; pass(60) = STATE; pass(-1) = BAD; on(61, 10) = -10001; on(-1, 9) = -10001",
            "best(0, 3) = NONE; best(4, -3) = NONE; best(0, 0) = BAD; best(4, 2) = BAD; best(3, 2) = -5",
            "rocket(0, 0, 0, 0); 5 x mark(0, 0, 0); mark(1, 13, 0) = NONE; mark(0, 13, 0) = BAD; mark(0, 0, 1000) = BAD"
                + "; mark(0, 0, 0) = FULL; 10 x plan(0, 0); plan(4, 0) = NONE; plan(1, 1) = NONE; plan(0, 1) = FULL",
            "rocket(0, 0, 0, 0); 8 x book(0, 0); book(1, 100) = NONE; book(0, 100) = BAD; book(0, 0) = FULL",
            "tape(0, 0, 1); judge(6, 0) = NONE; judge(0, -1) = CAST; taken(0, 7) = BAD; taken(0, 0) = NOTHING; tape(6, 5, 61) = NONE"
                + "; tape(0, 5, -1) = BAD; tape(0, 0, 61) = BAD; tape(0, 0, -1) = SIZE; item(6, 9, 0) = NONE; item(1, 9, 0) = NOTHING"
                + "; item(0, 9, 0) = PLACE",
            "tape(0, 0, 1); tape(1, 1, 1); shift(6, 0, 2, 0, -1) = NONE; shift(2, 0, 6, 0, -1) = NONE; shift(2, 0, 0, 0, -1) = NOTHING"
                + "; shift(0, 0, 2, 0, -1) = NOTHING; shift(0, 0, 1, 0, -1) = CAST; shift(0, 0, 0, 0, -1) = PLACE");
    }
}
