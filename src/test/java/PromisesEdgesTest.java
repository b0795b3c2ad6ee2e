import java.io.IOException;

/** "Promise 1" to "Promise 34": each sentence that names a boundary case, with a test of its own. */
public final class PromisesEdgesTest {
    /** Four ROCKETS, one of them SEEN, and something of all that an object can hold; nothing of it is full. */
    private static final String RICH = """
        rocket(6, 3, 5, 1); rocket(4, 2, 6, 0); rocket(0, 4, 7, 2); rocket(3, 2, 8, 3); grieve(0, 30); grieve(1, 20)
        grieve(2, 999); rain(0, 3); rain(1, 1); row(0, 1, 4); set(1, 1, 35); set(3, 1, 20); show 'bright 3 p=0;dry 5'
        mark(1, 0, 11); plan(1, 1); book(1, 35); image(); light(2); pass(1); set(1, 1, 40); mark(1, 1, 13); plan(0, 0)
        plan(2, 3); plan(1, 3); book(1, 40); book(3, 24); tape(0, 1, 4); item(0, 0, 30); item(0, 1, 20); tape(1, 0, 2)
        item(1, 1, -3); act(0, 2, 9); feed 'dry'
        """;
    private static final String SIX = "6 x rocket(0, 0, 1, 0);";

    private final Sentences s = new Sentences();

    private PromisesEdgesTest() throws IOException {
    }

    public static void main(String[] args) throws IOException {
        new PromisesEdgesTest().all();
    }

    private void all() {
        newObject();
        rocket();
        of();
        set();
        light();
        grieveAndRain();
        row();
        feed();
        show();
        told();
        pass();
        on();
        best();
        mark();
        wrong();
        can();
        oddsAndMean();
        planAndEnds();
        bookAndLooked();
        judge();
        imageAndUndo();
        act();
        trace();
        taken();
        count();
        tape();
        item();
        read();
        shift();
        s.end(1, Document.PROMISES);
    }

    private void newObject() {
        s.promise(1, "No ROCKETS, no SHOW.", """
            count(0) = 0; count(1) = 0; count(2) = 0; count(3) = 0; count(4) = 0; count(5) = 0; count(6) = 0
            of(0, 0) = -10001; light(0) = NONE; told(0) = 0; told(1) = 2; told(2) = 15; told(3) = 0; told(4) = 0; told(5) = 0
            wrong() = -5; looked() = -5; ends(0) = 0; ends(1) = 0; trace(0) = NONE; undo() = STATE; mean(0) = NO
            read(0, 0) = NO; read(5, 0) = NO; rocket(0, 0, 0, 0) = 0; show 'dry 1' = 0
            """);
    }

    private void rocket() {
        s.promise(2, "A ROCKET FOR one of PEOPLE: its number.", """
            rocket(0, 0, 0, 0) = 0; rocket(6, 9, 20, 3) = 1; of(0, 0) = 0; of(0, 1) = 0; of(0, 2) = 0; of(0, 3) = 0
            of(1, 0) = 6; of(1, 1) = 9; of(1, 2) = 20; of(1, 3) = 3; of(1, 4) = 0; of(1, 5) = 0; row(1, 0, 0) = 0
            row(1, 3, 0) = 0; count(0) = 2; told(4) = 3
            """);
        s.promise(2, "NONE: kind, person;", RICH + """
            rocket(-1, 0, 0, 0) = NONE; rocket(7, 0, 0, 0) = NONE; rocket(0, 0, 0, -1) = NONE; rocket(0, 0, 0, 4) = NONE
            rocket(MIN, 0, 0, 0) = NONE; rocket(MAX, 0, 0, 0) = NONE; rocket(0, 0, 0, MIN) = NONE; rocket(0, 0, 0, MAX) = NONE
            rocket(7, 10, 21, 4) = NONE; count(0) = 4; rocket(0, 0, 0, 0) = 4; rocket(6, 0, 0, 3) = 5
            rocket(7, 0, 0, 0) = NONE; rocket(0, 0, 0, 4) = NONE
            """);
        s.promise(2, "BAD: v, size;", RICH + """
            rocket(0, -1, 0, 0) = BAD; rocket(0, 10, 0, 0) = BAD; rocket(0, 0, -1, 0) = BAD; rocket(0, 0, 21, 0) = BAD
            rocket(0, MIN, 0, 0) = BAD; rocket(0, MAX, 0, 0) = BAD; rocket(0, 0, MIN, 0) = BAD; rocket(0, 0, MAX, 0) = BAD
            count(0) = 4; rocket(0, 0, 0, 0) = 4; rocket(0, 9, 20, 0) = 5; rocket(0, 10, 0, 0) = BAD; rocket(0, 0, 21, 0) = BAD
            """);
        s.promise(2, "FULL: 6.", RICH + """
            rocket(0, 0, 0, 0) = 4; rocket(0, 0, 0, 0) = 5; rocket(0, 0, 0, 0) = FULL; rocket(6, 9, 20, 3) = FULL; count(0) = 6
            undo() = 4; rocket(0, 0, 0, 0) = 4; rocket(0, 0, 0, 0) = 5; rocket(0, 0, 0, 0) = FULL
            """);
    }

    private void of() {
        s.promise(3, "Of a ROCKET what 0 KIND, 1 v, 2 SIZE, 3 whom it is FOR, 4 DAMP, 5 STATE,"
            + " 6 LIGHT (whatever its STATE is), 7 BRIGHTEST: in how many MINUTES, 8 that LIGHT, 9 GIFT, 10 SIZES (bits).", """
            rocket(1, 2, 3, 1); set(0, 1, 45); grieve(2, 4); mark(0, 0, 0); of(0, -1) = -10001; of(0, 0) = 1; of(0, 1) = 2
            of(0, 2) = 3; of(0, 3) = 1; of(0, 4) = 45; of(0, 5) = 0; of(0, 6) = 4; of(0, 7) = 18; of(0, 8) = 8; of(0, 9) = 2
            of(0, 10) = 3; of(0, 11) = -10001; light(0) = 2; of(0, 5) = 2; of(0, 6) = 4; of(0, 7) = 0; of(0, 8) = 4
            of(0, 9) = 0; of(0, 10) = 3
            """, """
            rocket(0, 0, 0, 0); of(0, 6) = 0; light(0) = 1; of(0, 5) = 1; of(0, 6) = 0; set(0, 1, 99); of(0, 6) = -9
            of(0, 8) = -9; set(0, 0, 20); of(0, 6) = 31
            """);
        s.promise(3, "-10001: NONE.", "of(0, 0) = -10001; of(0, 10) = -10001; of(-1, 0) = -10001", RICH + """
            of(-1, 0) = -10001; of(4, 0) = -10001; of(4, 10) = -10001; of(MIN, 6) = -10001; of(MAX, 6) = -10001
            of(3, -1) = -10001; of(3, 11) = -10001; of(3, MIN) = -10001; of(3, MAX) = -10001; of(3, 0) = 3; of(3, 10) = 2097151
            """);
    }

    private void set() {
        s.promise(4, "Of a ROCKET 0 SIZE (0 .. 20), 1 DAMP (0 .. 99), 2 whom it is FOR (0 .. 3) becomes n: what it was.", """
            rocket(1, 2, 3, 1); set(0, 0, 0) = 3; set(0, 0, 1) = 0; set(0, 0, 19) = 1; set(0, 0, 20) = 19; of(0, 2) = 20
            set(0, 1, 0) = 0; set(0, 1, 1) = 0; set(0, 1, 98) = 1; set(0, 1, 99) = 98; of(0, 4) = 99; set(0, 2, 0) = 1
            set(0, 2, 1) = 0; set(0, 2, 2) = 1; set(0, 2, 3) = 2; of(0, 3) = 3; of(0, 0) = 1; of(0, 1) = 2; of(0, 5) = 0
            light(0) = 2; set(0, 0, 5) = 20; set(0, 1, 6) = 99; set(0, 2, 0) = 3; of(0, 2) = 5; of(0, 4) = 6; of(0, 3) = 0
            """);
        s.promise(4, "NONE: rocket, what;", "set(0, 0, 0) = NONE; set(-1, 0, 0) = NONE", RICH + """
            set(-1, 0, 0) = NONE; set(4, 0, 0) = NONE; set(MIN, 1, 0) = NONE; set(MAX, 2, 0) = NONE; set(0, -1, 0) = NONE
            set(0, 3, 0) = NONE; set(0, MIN, 0) = NONE; set(0, MAX, 0) = NONE; set(4, 0, 21) = NONE; set(0, 3, -1) = NONE
            set(3, 2, 0) = 3
            """);
        s.promise(4, "BAD.", RICH + """
            set(0, 0, -1) = BAD; set(0, 0, 21) = BAD; set(0, 1, -1) = BAD; set(0, 1, 100) = BAD; set(0, 2, -1) = BAD
            set(0, 2, 4) = BAD; set(0, 0, MIN) = BAD; set(0, 1, MAX) = BAD; set(0, 2, MIN) = BAD; set(0, 2, MAX) = BAD
            of(0, 2) = 5; of(0, 4) = 4; of(0, 3) = 1
            """);
    }

    private void light() {
        s.promise(5, "A ROCKET is lit: its STATE then.", RICH + """
            of(0, 6) = 17; light(0) = 2; of(0, 5) = 2; told(21) = 3; told(5) = 5; set(1, 0, 0); set(1, 1, 99); of(1, 6) = -3
            light(1) = 1; of(1, 5) = 1; told(20) = 30; told(5) = 5; told(4) = 8; told(0) = 1
            """);
        s.promise(5, "NONE;", "light(0) = NONE; light(-1) = NONE", RICH
            + "light(-1) = NONE; light(4) = NONE; light(MIN) = NONE; light(MAX) = NONE; light(3) = 2");
        s.promise(5, "STATE: it is not UNLIT.", RICH + """
            light(2) = STATE; set(1, 0, 0); set(1, 1, 99); light(1) = 1; light(1) = STATE; set(1, 0, 20); light(1) = STATE
            of(1, 5) = 1; told(20) = 30; undo(); light(2) = 2; light(2) = STATE
            """);
    }

    private void grieveAndRain() {
        s.promise(6, "GRIEF of one of PEOPLE becomes n (0 .. 999): what it was.", """
            grieve(0, 0) = 0; grieve(0, 1) = 0; grieve(0, 998) = 1; grieve(0, 999) = 998; grieve(0, 0) = 999; grieve(1, 5) = 0
            grieve(2, 6) = 0; grieve(3, 7) = 0; told(20) = 0; told(21) = 5; told(22) = 6; told(23) = 7; told(2) = 1
            """);
        s.promise(6, "NONE;", RICH + """
            grieve(-1, 0) = NONE; grieve(4, 0) = NONE; grieve(MIN, 0) = NONE; grieve(MAX, 0) = NONE; grieve(4, 1000) = NONE
            grieve(-1, -1) = NONE; grieve(3, 1) = 0
            """);
        s.promise(6, "BAD.", RICH
            + "grieve(0, -1) = BAD; grieve(0, 1000) = BAD; grieve(3, MIN) = BAD; grieve(3, MAX) = BAD; told(20) = 30; told(23) = 0");
        s.promise(7, "The k-th (0 .. 3) of RAIN becomes n (0 .. 9): what it was.", """
            rain(0, 0) = 0; rain(0, 1) = 0; rain(0, 8) = 1; rain(0, 9) = 8; rain(0, 0) = 9; rain(1, 5) = 0; rain(2, 6) = 0
            rain(3, 7) = 0; told(10) = 0; told(11) = 5; told(12) = 6; told(13) = 7
            """);
        s.promise(7, "NONE;", RICH + """
            rain(-1, 0) = NONE; rain(4, 0) = NONE; rain(MIN, 0) = NONE; rain(MAX, 0) = NONE; rain(4, 10) = NONE
            rain(-1, -1) = NONE; rain(3, 1) = 0
            """);
        s.promise(7, "BAD.", RICH
            + "rain(0, -1) = BAD; rain(0, 10) = BAD; rain(3, MIN) = BAD; rain(3, MAX) = BAD; told(10) = 3; told(13) = 0");
    }

    private void row() {
        s.promise(8, "The ROW of a TOLD one becomes n (0 .. 9) for MINUTES modulo 4 being part: what it was.", """
            rocket(6, 9, 0, 0); row(0, 0, 0) = 0; row(0, 0, 1) = 0; row(0, 0, 8) = 1; row(0, 0, 9) = 8; row(0, 1, 5) = 0
            row(0, 2, 6) = 0; row(0, 3, 7) = 0; of(0, 6) = 9; on(1, 20) = 5; on(2, 20) = 6; on(3, 20) = 7; on(4, 20) = 9
            pass(3); of(0, 6) = 7; pass(1); of(0, 6) = 9; row(0, 0, 0) = 9; of(0, 6) = 0; on(3, 20) = 7; light(0) = 1
            row(0, 3, 1) = 7; on(3, 20) = 1
            """);
        s.promise(8, "NONE: rocket, part;", "row(0, 0, 0) = NONE", RICH + """
            row(-1, 0, 0) = NONE; row(4, 0, 0) = NONE; row(MIN, 0, 0) = NONE; row(MAX, 0, 0) = NONE; row(0, -1, 0) = NONE
            row(0, 4, 0) = NONE; row(0, MIN, 0) = NONE; row(0, MAX, 0) = NONE; row(0, 4, 10) = NONE; row(4, 0, 10) = NONE
            row(1, 4, 0) = NONE; row(0, 3, 1) = 0; row(0, 1, 0) = 4
            """);
        s.promise(8, "BAD;", RICH + """
            row(0, 0, -1) = BAD; row(0, 0, 10) = BAD; row(0, 1, MIN) = BAD; row(0, 1, MAX) = BAD; row(1, 0, 10) = BAD
            row(0, 1, 0) = 4
            """);
        s.promise(8, "STATE: another KIND.", """
            rocket(0, 0, 0, 0); rocket(1, 0, 0, 0); rocket(2, 0, 0, 0); rocket(3, 0, 0, 0); rocket(4, 0, 0, 0)
            rocket(5, 0, 0, 0); row(0, 0, 0) = STATE; row(1, 1, 1) = STATE; row(2, 2, 2) = STATE; row(3, 3, 3) = STATE
            row(4, 0, 9) = STATE; row(5, 3, 0) = STATE; row(3, 0, 10) = BAD
            """, RICH + "row(1, 0, 5) = STATE; row(3, 3, 5) = STATE; row(0, 3, 5) = 0");
    }

    private void feed() {
        s.promise(9, "A sign (0 .. 127) comes behind THE TEXT's: how many it has.", """
            feed(0) = 1; feed(1) = 2; feed(126) = 3; feed(127) = 4; count(5) = 4; show() = -10; feed(100) = 1; feed(114) = 2
            feed(121) = 3; feed(32) = 4; feed(55) = 5; show() = 0; told(1) = 7; feed(100) = 1
            """);
        s.promise(9, "BAD;", "feed(-1) = BAD; feed(128) = BAD; count(5) = 0", RICH + """
            feed(-1) = BAD; feed(128) = BAD; feed(MIN) = BAD; feed(MAX) = BAD; feed(256) = BAD; count(5) = 3; feed(32) = 4
            feed(128) = BAD; feed(54) = 5; show() = 1; told(1) = 6
            """);
        s.promise(9, "FULL.", "97 x feed(32); feed(32) = 98; feed(32) = 99; feed(32) = 100; feed(32) = FULL; feed(0) = FULL"
            + "; feed(127) = FULL; feed(128) = BAD; count(5) = 100; show() = -10; feed(32) = 1");
    }

    private void show() {
        s.promise(10, "THE TEXT, which is empty then, is a SHOW, and holds: its number.", """
            rocket(0, 0, 5, 0); feed 'bright 3 p=0' = 12; of(0, 6) = 10; show() = 0; count(5) = 0; count(1) = 1; of(0, 6) = 13
            feed 'dry 4' = 5; show() = 1; count(5) = 0; count(1) = 2; of(0, 6) = 10; told(1) = 4; show() = -10; told(1) = 4
            """);
        s.promise(10, "FULL: there are 6 (THE TEXT stays);", """
            show 'dry 3' = 0; show 'dry 4' = 1; show 'dry 5' = 2; show 'dry 6' = 3; show 'dry 7' = 4; show 'dry 8' = 5
            show() = FULL; count(5) = 0; feed 'dry 9' = 5; show() = FULL; count(5) = 5; told(1) = 8; feed(57) = 6
            show() = FULL; count(5) = 6; count(1) = 6
            """, RICH + "feed ' 4'; show() = 1; show 'dry 5'; show 'dry 6'; show 'dry 7'; show 'dry 8' = 5"
                + "; feed 'x' = 1; show() = FULL; feed 'dry' = 4; show() = FULL; told(1) = 8; undo(); told(1) = 5; show() = FULL");
        s.promise(10, "-10 less the FAULT (the one that held holds).", """
            rocket(0, 0, 5, 0); show 'x' = -10; told(1) = 2; show 'bright 3 p=0;dry 4' = 0; show '' = -10; show 'd' = -11
            show 'dry 5;' = -16; show 'dry 100' = -16; show 'bright 9 p=0;dim' = -26; of(0, 6) = 13; told(1) = 4; count(1) = 1
            show 'dry 5' = 1; of(0, 6) = 10; told(1) = 5
            """, "show 'dry 1' = 0; show 'dry 2;dry 3;dry 4;dry 5;dry 6;dry 7;dry 8;dry 9;dry 10;dry 11;dry 12' = fault 61; told(1) = 1"
                + "; count(5) = 0", """
            show 'dry 9;dry' = fault 9; show 'dry 9' = 0; show 'dim 1 !(!(!p=1))' = fault 10; show 'dry 8;x' = fault 6
            told(1) = 9; count(1) = 1
            """);
    }

    private void told() {
        s.promise(11, "What 0 MINUTE, 1 DRY, 2 who is EVEN (bits), 3 GRIEF of all, together, 4 which ROCKETS are UNLIT (bits),"
            + " 5 which are SEEN (bits),", RICH + """
            told(0) = 1; told(1) = 5; told(2) = 8; told(3) = 1035; told(4) = 11; told(5) = 4; grieve(3, 1); told(2) = 0
            light(0); light(1); light(3); told(4) = 0; told(5) = 15
            """, "told(4) = 0; told(5) = 0; " + SIX + " told(4) = 63; told(5) = 0; 3 x grieve(0, 999); told(3) = 999; grieve(1, 999)"
                + "; grieve(2, 999); grieve(3, 999); told(3) = 3996; told(2) = 0; light(5); told(4) = 31; told(5) = 32; told(3) = 3994");
        s.promise(11, "10 and k the k-th of RAIN,", RICH + """
            rain(3, 9); told(9) = NONE; told(10) = 3; told(11) = 1; told(12) = 0; told(13) = 9; told(14) = NONE
            """);
        s.promise(11, "20 and q GRIEF of one q of PEOPLE,", RICH + """
            grieve(3, 1); told(19) = NONE; told(20) = 30; told(21) = 20; told(22) = 985; told(23) = 1; told(24) = NONE
            """);
        s.promise(11, "30 and q ENOUGH for q (bits; -5).", RICH + """
            told(29) = NONE; told(30) = -5; told(31) = -5; told(32) = -5; told(33) = 0; told(34) = NONE; grieve(1, 17)
            told(31) = 1; grieve(1, 18); told(31) = -5; grieve(3, 14); told(33) = 8; grieve(3, 15); told(33) = -5
            """, SIX + " told(30) = 0; grieve(0, 12); told(30) = 63; grieve(0, 13); told(30) = -5; grieve(1, 1); told(31) = -5");
        s.promise(11, "NONE.", RICH + """
            told(-1) = NONE; told(6) = NONE; told(7) = NONE; told(9) = NONE; told(14) = NONE; told(19) = NONE; told(24) = NONE
            told(29) = NONE; told(34) = NONE; told(39) = NONE; told(40) = NONE; told(-10) = NONE; told(-6) = NONE; told(100) = NONE
            told(MIN) = NONE; told(MAX) = NONE
            """);
    }

    private void pass() {
        s.promise(12, "n MINUTES (0 .. 60) go: MINUTE.", RICH + """
            pass(0) = 1; of(1, 4) = 40; pass(1) = 2; of(1, 4) = 38; pass(59) = 61; pass(60) = 121; told(0) = 121; of(2, 4) = 0
            """, "rocket(0, 0, 0, 0); set(0, 1, 99); show 'dry 1'; pass(59) = 59; of(0, 4) = 40; set(0, 1, 99); pass(60) = 119; of(0, 4) = 39");
        s.promise(12, "BAD;", RICH + """
            pass(-1) = BAD; pass(61) = BAD; pass(MIN) = BAD; pass(MAX) = BAD; told(0) = 1; of(1, 4) = 40
            """, "166 x pass(60); pass(39) = 9999; pass(61) = BAD; pass(-1) = BAD");
        s.promise(12, "STATE: it would be above 9999.", """
            rocket(0, 0, 0, 0); rain(3, 9); 165 x pass(60); pass(40) = 9940; pass(60) = STATE; set(0, 1, 7); pass(59) = 9999
            of(0, 4) = 93; set(0, 1, 7); pass(1) = STATE; pass(60) = STATE; pass(0) = 9999; of(0, 4) = 7; told(0) = 9999
            """, "166 x pass(60); pass(38) = 9998; pass(2) = STATE; pass(1) = 9999; pass(1) = STATE");
    }

    private void on() {
        s.promise(13, "ON: what 10 and p DAMP, 20 and p LIGHT of ROCKET p.", RICH + """
            on(0, 10) = 4; on(0, 11) = 40; on(0, 12) = 0; on(0, 13) = 24; on(1, 10) = 2; on(0, 20) = 17; on(0, 21) = 12
            on(0, 22) = 14; on(0, 23) = 14; on(60, 13) = 4; on(60, 12) = 0; on(3, 23) = 0; on(4, 23) = 15
            """, SIX + " set(5, 1, 50); on(0, 15) = 50; on(0, 25) = -3; on(20, 25) = 1; on(16, 25) = 1; on(15, 25) = 0");
        s.promise(13, "-10001: NONE;", "on(0, 10) = -10001; on(0, 20) = -10001", RICH + """
            on(0, 9) = -10001; on(0, 14) = -10001; on(0, 19) = -10001; on(0, 24) = -10001; on(0, 30) = -10001
            on(0, 0) = -10001; on(0, -1) = -10001; on(0, MIN) = -10001; on(0, MAX) = -10001; on(61, 14) = -10001
            on(-1, 9) = -10001
            """, SIX + " on(0, 15) = 0; on(0, 16) = -10001; on(0, 25) = 2; on(0, 26) = -10001; on(0, 5) = -10001; on(0, 35) = -10001");
        s.promise(13, "BAD: n.", RICH + """
            on(-1, 10) = BAD; on(61, 10) = BAD; on(-1, 20) = BAD; on(61, 20) = BAD; on(MIN, 13) = BAD; on(MAX, 23) = BAD
            """);
    }

    private void best() {
        s.promise(14, "ROW: k -2 how many, -1 GRIEF, else the k-th (0 .. 2; -5, too, if k is beyond the row);", RICH + """
            best(1, -2) = 1; best(1, -1) = 1018; best(1, 0) = 0; best(1, 1) = -5; best(1, 2) = -5; best(2, -2) = 1
            best(2, -1) = 1003; best(2, 0) = 0; best(2, 1) = 1; best(2, 2) = -5; best(3, -2) = 1; best(3, -1) = 1001
            best(3, 0) = 0; best(3, 1) = 3; best(3, 2) = 1; grieve(1, 17); best(1, -2) = 2
            """);
        s.promise(14, "-5.", "best(1, -2) = -5; best(1, -1) = -5; best(1, 0) = -5; best(1, 1) = -5; best(1, 2) = -5; best(3, 0) = -5",
            RICH + """
            light(3); best(3, -2) = -5; best(3, -1) = -5; best(3, 0) = -5; best(3, 2) = -5; best(2, 1) = 1; light(0)
            best(2, 1) = -5; best(2, -2) = -5; best(1, 0) = 1; light(1); best(1, 0) = -5; best(1, -1) = -5
            """);
        s.promise(14, "NONE: k;", "best(1, -3) = NONE; best(1, 3) = NONE", RICH + """
            best(1, -3) = NONE; best(1, 3) = NONE; best(3, MIN) = NONE; best(3, MAX) = NONE; best(0, 3) = NONE; best(4, -3) = NONE
            """);
        s.promise(14, "BAD: n.", "best(0, 0) = BAD; best(4, 0) = BAD", RICH + """
            best(0, -2) = BAD; best(0, 0) = BAD; best(4, -1) = BAD; best(4, 2) = BAD; best(MIN, 0) = BAD; best(MAX, 0) = BAD
            best(-1, 1) = BAD
            """);
    }

    private void mark() {
        s.promise(15, "What is MARKED comes: how many there are (rocket -1: none then, 0).", """
            mark(-1, 0, 0) = 0; rocket(0, 0, 3, 0); mark(0, 0, 6) = 1; mark(0, 12, 6) = 2; wrong() = -5; mark(0, 0, 7) = 3
            wrong() = 2; mark(-1, 0, 0) = 0; count(2) = 0; wrong() = -5; mark(0, 0, 7) = 1; wrong() = 0; mark(-1, 13, 1000) = 0
            count(2) = 0; mark(-1, MIN, MAX) = 0
            """);
        s.promise(15, "NONE;", "mark(0, 0, 0) = NONE; mark(-2, 0, 0) = NONE", RICH + """
            mark(-2, 0, 0) = NONE; mark(4, 0, 0) = NONE; mark(MIN, 0, 0) = NONE; mark(MAX, 0, 0) = NONE; mark(4, 13, 1000) = NONE
            mark(3, 0, 0) = 3
            """);
        s.promise(15, "BAD: n, light;", RICH + """
            mark(0, -1, 0) = BAD; mark(0, 13, 0) = BAD; mark(0, MIN, 0) = BAD; mark(0, MAX, 0) = BAD; mark(0, 0, -1) = BAD
            mark(0, 0, 1000) = BAD; mark(0, 0, MIN) = BAD; mark(0, 0, MAX) = BAD; count(2) = 2; mark(0, 12, 999) = 3
            mark(0, 0, 0) = 4
            """);
        s.promise(15, "FULL: 5.", RICH + """
            mark(1, 0, 12) = 3; mark(1, 0, 12) = 4; mark(1, 0, 12) = 5; mark(1, 0, 12) = FULL; mark(0, 12, 999) = FULL
            count(2) = 5; mark(4, 0, 0) = NONE; mark(0, 13, 0) = BAD; undo(); count(2) = 1; mark(1, 0, 11) = 2; mark(-1, 0, 0) = 0
            """);
    }

    private void wrong() {
        s.promise(16, "FALSE; -5.", "wrong() = -5", RICH + """
            wrong() = 0; undo(); wrong() = -5; mark(1, 0, 11) = 2; mark(1, 0, 11) = 3; mark(1, 0, 11) = 4; wrong() = -5
            mark(1, 0, 12) = 5; wrong() = 4; mark(-1, 0, 0); wrong() = -5
            """);
    }

    private void can() {
        s.promise(17, "CAN: what 0 how many, 1 the least; -5.", RICH + """
            can(0, 0) = 10; can(0, 1) = 0; can(3, 0) = 10; undo(); can(1, 0) = 1; can(1, 1) = 2; mark(1, 0, 9); can(1, 0) = 0
            can(1, 1) = -5; of(1, 1) = 2; mark(-1, 0, 0); mark(1, 0, 18); can(1, 0) = 1; can(1, 1) = 9; mark(-1, 0, 0)
            mark(1, 0, 19); can(1, 0) = 0; can(1, 1) = -5
            """);
        s.promise(17, "NONE.", "can(0, 0) = NONE", RICH + """
            can(-1, 0) = NONE; can(4, 0) = NONE; can(MIN, 1) = NONE; can(MAX, 1) = NONE; can(0, -1) = NONE; can(0, 2) = NONE
            can(0, MIN) = NONE; can(0, MAX) = NONE
            """);
    }

    private void oddsAndMean() {
        s.promise(18, "ODDS; part 0 above, 1 below the line.", RICH + """
            odds(0, 0) = 1; odds(0, 1) = 1; set(0, 0, 0); odds(0, 0) = 1; odds(0, 1) = 1; set(0, 1, 24); odds(0, 0) = 2
            odds(0, 1) = 5; set(0, 1, 50); odds(0, 0) = 0; odds(0, 1) = 1; told(11) = 1
            """);
        s.promise(18, "NO: rocket, part.", "odds(0, 0) = NO; odds(0, 1) = NO", RICH + """
            odds(-1, 0) = NO; odds(4, 0) = NO; odds(MIN, 1) = NO; odds(MAX, 1) = NO; odds(0, -1) = NO; odds(0, 2) = NO
            odds(0, MIN) = NO; odds(0, MAX) = NO; odds(3, 1) = 1
            """);
        s.promise(19, "MEAN; part likewise.", RICH + """
            mean(0) = 345; mean(1) = 1; grieve(0, 31); mean(0) = 1036; mean(1) = 3; grieve(3, 4); mean(0) = 260; mean(1) = 1
            """);
        s.promise(19, "NO.", "mean(0) = NO; mean(1) = NO; grieve(3, 1); mean(0) = 1; mean(1) = 1; grieve(3, 0); mean(0) = NO", RICH
            + "mean(-1) = NO; mean(2) = NO; mean(MIN) = NO; mean(MAX) = NO; mean(1) = 1");
    }

    private void planAndEnds() {
        s.promise(20, "A row comes to the PLAN: how many there are (what -1: it is empty then, 0).", """
            plan(-1, 0) = 0; plan(0, 0) = 1; plan(0, 9) = 2; plan(0, MIN) = 3; plan(-1, 77) = 0; count(3) = 0; rocket(0, 0, 5, 0)
            grieve(0, 50); plan(1, 0) = 1; ends(0) = 40; plan(-1, MIN) = 0; ends(0) = 50; plan(2, 0) = 1; plan(3, 0) = 2; ends(0) = 50
            """);
        s.promise(20, "NONE: what (0 .. 3), rocket (but by 0);", "plan(1, 0) = NONE; plan(2, 0) = NONE; plan(3, 0) = NONE; plan(0, 0) = 1",
            RICH + """
            plan(-2, 0) = NONE; plan(4, 0) = NONE; plan(MIN, 0) = NONE; plan(MAX, 0) = NONE; plan(1, -1) = NONE; plan(1, 4) = NONE
            plan(2, -1) = NONE; plan(2, 4) = NONE; plan(3, -1) = NONE; plan(3, 4) = NONE; plan(1, MIN) = NONE; plan(3, MAX) = NONE
            plan(0, -1) = 5; plan(0, 4) = 6; plan(1, 3) = 7; plan(3, 0) = 8
            """);
        s.promise(20, "FULL: 10.", RICH + """
            plan(0, 0) = 5; plan(0, 0) = 6; plan(0, 0) = 7; plan(0, 0) = 8; plan(3, 1) = 9; plan(1, 1) = 10; plan(1, 1) = FULL
            plan(0, 0) = FULL; plan(4, 0) = NONE; plan(1, 4) = NONE; count(3) = 10; undo(); count(3) = 1; plan(0, 0) = 2
            plan(-1, 0) = 0
            """);
        s.promise(21, "ENDS: what 0 GRIEF, 1 which.", RICH + """
            told(3) = 1035; told(5) = 4; ends(0) = 1023; ends(1) = 14; plan(3, 2); ends(1) = 10; plan(-1, 0); ends(0) = 1035; ends(1) = 4
            """, "ends(0) = 0; ends(1) = 0");
        s.promise(21, "NONE.", RICH + "ends(-1) = NONE; ends(2) = NONE; ends(MIN) = NONE; ends(MAX) = NONE");
    }

    private void bookAndLooked() {
        s.promise(22, "A row comes to the BOOK: how many there are (rocket -1: it is empty then, 0).", """
            book(-1, 0) = 0; rocket(0, 0, 0, 0); book(0, 0) = 1; book(0, 99) = 2; looked() = 1; book(-1, 100) = 0; count(4) = 0
            looked() = -5; book(0, 98) = 1; looked() = 0; book(-1, MIN) = 0
            """);
        s.promise(22, "NONE;", "book(0, 0) = NONE; book(-2, 0) = NONE", RICH + """
            book(-2, 0) = NONE; book(4, 0) = NONE; book(MIN, 0) = NONE; book(MAX, 0) = NONE; book(4, 100) = NONE; book(3, 24) = 4
            """);
        s.promise(22, "BAD: damp;", RICH + """
            book(0, -1) = BAD; book(0, 100) = BAD; book(0, MIN) = BAD; book(0, MAX) = BAD; count(4) = 3; book(0, 0) = 4
            book(0, 99) = 5
            """);
        s.promise(22, "FULL: 8.", RICH + """
            book(0, 4) = 4; book(0, 4) = 5; book(0, 4) = 6; book(0, 4) = 7; book(0, 4) = 8; book(0, 4) = FULL; book(3, 99) = FULL
            book(4, 0) = NONE; book(0, 100) = BAD; count(4) = 8; undo(); count(4) = 1; book(1, 35) = 2; book(-1, 0) = 0
            """);
        s.promise(23, "LOOKED at; -5.", "looked() = -5", RICH + """
            looked() = 0; undo(); looked() = -5; 6 x book(1, 35); looked() = -5; book(1, 34) = 8; looked() = 7; set(1, 1, 34)
            looked() = 0; book(-1, 0); looked() = -5
            """);
    }

    private void judge() {
        s.promise(24, "JUDGED from place i of a TAPE on.", RICH + """
            judge(0, 0) = 2; item(0, 2, 985); judge(0, 0) = -5; item(0, 3, 30); judge(0, 3) = 101; judge(0, 2) = 0; judge(0, 4) = 100
            judge(0, 5) = 100; judge(0, -1) = 100; judge(0, MIN) = 100; judge(0, MAX) = 100; judge(5, 0) = 100; judge(5, MAX) = 100
            """, "tape(0, 1, 60); judge(0, 0) = -5; judge(0, 56) = -5; judge(0, 57) = 103; judge(0, 59) = 101; judge(0, 60) = 100"
                + "; item(0, 59, 1); judge(0, 56) = 3; judge(0, 55) = -5; judge(0, 59) = 0");
        s.promise(24, "NONE: tape;", RICH + "judge(-1, 0) = NONE; judge(6, 0) = NONE; judge(MIN, -1) = NONE; judge(MAX, 0) = NONE");
        s.promise(24, "CAST: it is no row of shorts.", RICH + """
            judge(1, 0) = CAST; judge(1, -1) = CAST; judge(1, 99) = CAST; tape(2, 2, 4); judge(2, 0) = CAST; tape(2, 3, 4)
            judge(2, 0) = CAST; tape(2, 4, 4); judge(2, 0) = CAST; tape(2, 0, 0); judge(2, 0) = CAST; tape(2, 1, 4)
            judge(2, 0) = 0; tape(2, -1, 0); judge(2, 0) = 100
            """);
    }

    private void imageAndUndo() {
        s.promise(25, "THE IMAGE is taken: how many ROCKETS there are.", "image() = 0; rocket(0, 0, 0, 0); image() = 1; 5 x rocket(0, 0, 0, 0)"
            + "; image() = 6; undo() = 6", RICH + "image() = 4; grieve(0, 1); undo() = 4; told(20) = 30; count(2) = 2; told(5) = 4");
        s.promise(26, "All is as THE IMAGE: how many ROCKETS.", RICH + """
            undo() = 4; told(0) = 0; of(1, 4) = 35; of(2, 5) = 0; told(22) = 999; count(2) = 1; count(3) = 1; count(4) = 1
            count(1) = 1; count(5) = 3; count(6) = 12; read(0, 0) = 30; rocket(0, 0, 0, 0) = 4; undo() = 4; of(4, 0) = -10001
            """, """
            image() = 0; 6 x rocket(6, 9, 20, 3); row(0, 0, 9); set(0, 1, 99); light(1); undo() = 0; told(4) = 0; told(5) = 0
            rocket(6, 0, 0, 0) = 0; of(0, 4) = 0; row(0, 0, 0) = 0; rocket(0, 0, 0, 0) = 1; of(1, 5) = 0; undo() = 0; count(0) = 0
            """);
        s.promise(26, "STATE: there is none.", "undo() = STATE; rocket(0, 0, 5, 0); grieve(0, 9); undo() = STATE; count(0) = 1; told(20) = 9"
            + "; image() = 1; undo() = 1; undo() = 1");
    }

    private void act() {
        s.promise(27, "An ACT (0 hisses, 1 climbs, 2 tells) of a ROCKET with x.", RICH + """
            act(2, 0, 5) = 7; count(6) = 1; act(2, 1, 5) = 3; count(6) = 2; act(2, 2, 5) = 6; count(6) = 3; act(2, 0, MAX) = -2147483647
            act(0, 0, 0) = 3; act(3, 0, -3) = 0; count(6) = 1
            """);
        s.promise(27, "0, and no TRACE then: no such ROCKET, act.", "act(0, 0, 5) = 0; count(6) = 0; trace(0) = NONE", RICH + """
            count(6) = 12; act(-1, 0, 5) = 0; count(6) = 0; trace(0) = NONE; act(2, 2, 5) = 6; act(4, 0, 5) = 0; count(6) = 0
            trace(0) = NONE; act(2, 2, 5) = 6; act(2, -1, 5) = 0; count(6) = 0; trace(0) = NONE; act(2, 2, 5) = 6; act(2, 3, 5) = 0
            count(6) = 0; trace(0) = NONE; act(2, 2, 5) = 6; act(MIN, MAX, 5) = 0; trace(0) = NONE; act(MAX, MIN, 5) = 0; told(20) = 30
            """);
    }

    private void trace() {
        s.promise(28, "THE TRACE's i-th body.", RICH + """
            trace(0) = 40; trace(1) = 12; trace(11) = 10; act(1, 1, 0); trace(0) = 51; trace(4) = 10; act(2, 0, 0); trace(0) = 10
            """);
        s.promise(28, "NONE.", "trace(0) = NONE; trace(-1) = NONE", RICH + """
            trace(-1) = NONE; trace(12) = NONE; trace(19) = NONE; trace(20) = NONE; trace(MIN) = NONE; trace(MAX) = NONE; act(2, 0, 0)
            trace(1) = NONE; act(9, 0, 0); trace(0) = NONE
            """);
    }

    private void taken() {
        s.promise(29, "A ROCKET taken for one of KIND k (0 .. 6), or one under that: its KIND.", RICH + """
            taken(0, 0) = 6; taken(0, 3) = 6; taken(0, 6) = 6; taken(1, 0) = 4; taken(1, 1) = 4; taken(1, 4) = 4; taken(2, 0) = 0
            taken(3, 0) = 3; taken(3, 3) = 3
            """);
        s.promise(29, "BAD: k;", "taken(0, -1) = BAD; taken(0, 7) = BAD", RICH
            + "taken(0, -1) = BAD; taken(0, 7) = BAD; taken(0, MIN) = BAD; taken(0, MAX) = BAD; taken(4, 7) = BAD");
        s.promise(29, "NOTHING: no such ROCKET;", "taken(0, 0) = NOTHING", RICH
            + "taken(-1, 0) = NOTHING; taken(4, 6) = NOTHING; taken(MIN, 0) = NOTHING; taken(MAX, 6) = NOTHING; taken(3, 0) = 3");
        s.promise(29, "CAST.", RICH + """
            taken(0, 1) = CAST; taken(0, 2) = CAST; taken(0, 4) = CAST; taken(0, 5) = CAST; taken(1, 2) = CAST; taken(1, 6) = CAST
            taken(2, 1) = CAST; taken(2, 6) = CAST; taken(3, 6) = CAST; taken(3, 1) = CAST
            """);
    }

    private void count() {
        s.promise(30, "How many: 0 ROCKETS, 1 SHOWS, 2 MARKED, 3 of the PLAN, 4 of the BOOK, 5 bytes of THE TEXT,"
            + " 6 bodies that ran in the latest act().", RICH + """
            count(0) = 4; count(1) = 1; count(2) = 2; count(3) = 4; count(4) = 3; count(5) = 3; count(6) = 12; rocket(0, 0, 0, 0)
            count(0) = 5; act(2, 0, 0); count(6) = 1; act(9, 0, 0); count(6) = 0; show() = -13; count(1) = 1; count(5) = 0
            """);
        s.promise(30, "BAD.", RICH + "count(-1) = BAD; count(7) = BAD; count(MIN) = BAD; count(MAX) = BAD");
    }

    private void tape() {
        s.promise(31, "A TAPE becomes a row of n (0 .. 60) of a sort, all 0, or holds nothing (sort -1: n does not matter): 1.", """
            tape(0, 0, 0) = 1; read(0, 0) = NO; item(0, 0, 1) = PLACE; tape(0, 0, 1) = 1; read(0, 0) = 0; read(0, 1) = NO
            tape(0, 1, 59) = 1; read(0, 58) = 0; read(0, 59) = NO; tape(0, 3, 60) = 1; item(0, 0, 5); item(0, 59, 6); read(0, 60) = NO
            tape(0, 4, 60) = 1; read(0, 0) = 0; read(0, 59) = 0; tape(0, -1, 5) = 1; read(0, 0) = NO; item(0, 0, 1) = NOTHING
            tape(5, -1, -1) = 1; tape(5, -1, 61) = 1; tape(5, -1, MIN) = 1; tape(5, -1, MAX) = 1; tape(5, 2, 60) = 1; read(5, 59) = 0
            """, "tape(0, 2, 3); item(0, 2, 7); tape(0, 2, 2); tape(0, 2, 3); read(0, 2) = 0");
        s.promise(31, "NONE: tape;", RICH + """
            tape(-1, 0, 1) = NONE; tape(6, 0, 1) = NONE; tape(MIN, -1, 1) = NONE; tape(MAX, 0, 1) = NONE; tape(6, 5, 61) = NONE
            tape(-1, 0, -1) = NONE
            """);
        s.promise(31, "BAD: sort, n above 60;", RICH + """
            tape(0, -2, 1) = BAD; tape(0, 5, 1) = BAD; tape(0, MIN, 1) = BAD; tape(0, MAX, 1) = BAD; tape(0, 0, 61) = BAD
            tape(0, 4, 61) = BAD; tape(0, 0, MAX) = BAD; tape(0, 5, -1) = BAD; tape(0, -2, -1) = BAD; read(0, 0) = 30
            """);
        s.promise(31, "SIZE.", RICH + """
            tape(0, 0, -1) = SIZE; tape(0, 4, -1) = SIZE; tape(0, 1, MIN) = SIZE; tape(5, 3, -60) = SIZE; read(0, 0) = 30
            item(5, 0, 0) = NOTHING
            """);
    }

    private void item() {
        s.promise(32, "Item i of a TAPE becomes v (its lowest bits, as many as an item has; booleans: whether v is not 0): 1.", """
            tape(0, 0, 2); item(0, 0, 255) = 1; read(0, 0) = -1; item(0, 0, 257) = 1; read(0, 0) = 1; item(0, 1, LMAX) = 1
            read(0, 1) = -1; item(0, 1, LMIN) = 1; read(0, 1) = 0; item(0, 1, -128) = 1; read(0, 1) = -128; read(0, 0) = 1
            """, """
            tape(0, 1, 2); item(0, 0, 65535) = 1; read(0, 0) = -1; item(0, 0, 65537) = 1; read(0, 0) = 1; item(0, 1, LMAX) = 1
            read(0, 1) = -1; item(0, 1, LMIN) = 1; read(0, 1) = 0; item(0, 1, -32768) = 1; read(0, 1) = -32768
            """, """
            tape(0, 2, 2); item(0, 0, 4294967295) = 1; read(0, 0) = -1; item(0, 0, 4294967297) = 1; read(0, 0) = 1
            item(0, 1, LMAX) = 1; read(0, 1) = -1; item(0, 1, LMIN) = 1; read(0, 1) = 0; item(0, 1, MIN) = 1; read(0, 1) = MIN
            """, """
            tape(0, 3, 2); item(0, 0, LMAX) = 1; read(0, 0) = LMAX; item(0, 1, LMIN) = 1; read(0, 1) = LMIN; item(0, 1, -1) = 1
            read(0, 1) = -1
            """, """
            tape(0, 4, 60); item(0, 0, 0) = 1; read(0, 0) = 0; item(0, 0, 1) = 1; read(0, 0) = 1; item(0, 59, LMIN) = 1
            read(0, 59) = 1; item(0, 59, 0) = 1; read(0, 59) = 0; item(0, 58, -1) = 1; read(0, 58) = 1; read(0, 59) = 0
            """);
        s.promise(32, "NONE;", RICH
            + "item(-1, 0, 1) = NONE; item(6, 0, 1) = NONE; item(MIN, 0, 1) = NONE; item(MAX, 0, 1) = NONE; item(6, -1, 1) = NONE");
        s.promise(32, "NOTHING;", RICH + """
            item(2, 0, 1) = NOTHING; item(5, -1, 1) = NOTHING; item(5, MAX, 1) = NOTHING; tape(0, -1, 0); item(0, 0, 1) = NOTHING
            tape(0, 1, 0); item(0, 0, 1) = PLACE
            """);
        s.promise(32, "PLACE.", RICH + """
            item(0, -1, 1) = PLACE; item(0, 4, 1) = PLACE; item(0, MIN, 1) = PLACE; item(0, MAX, 1) = PLACE; item(0, 3, 1) = 1
            item(1, 2, 1) = PLACE; item(1, 1, 1) = 1; tape(2, 0, 60); item(2, 60, 1) = PLACE; item(2, 59, 1) = 1; tape(2, 0, 59)
            item(2, 59, 1) = PLACE
            """);
    }

    private void read() {
        s.promise(33, "Item i of a TAPE.", RICH + "read(0, 0) = 30; read(0, 1) = 20; read(0, 2) = 0; read(0, 3) = 0; read(1, 1) = -3"
            + "; tape(5, 3, 60); item(5, 59, 7); item(5, 0, 8); read(5, 59) = 7; read(5, 0) = 8");
        s.promise(33, "NO: no such TAPE, nothing there, no such place.", "read(0, 0) = NO; read(5, 0) = NO", RICH + """
            read(-1, 0) = NO; read(6, 0) = NO; read(MIN, 0) = NO; read(MAX, 0) = NO; read(2, 0) = NO; read(5, 0) = NO; read(0, -1) = NO
            read(0, 4) = NO; read(0, MIN) = NO; read(0, MAX) = NO; tape(0, -1, 0); read(0, 0) = NO; tape(0, 1, 0); read(0, 0) = NO
            """);
    }

    private void shift() {
        String four = "tape(0, 2, 4); item(0, 0, 1); item(0, 1, 2); item(0, 2, 3); item(0, 3, 4); tape(1, 2, 3); item(1, 0, 9);";
        s.promise(34, "n items of a TAPE from i on come to another one (or the same) from j on, as they all were before: n.", four + """
            shift(0, 0, 0, 1, 3) = 3; read(0, 0) = 1; read(0, 1) = 1; read(0, 2) = 2; read(0, 3) = 3
            """, four + "shift(0, 1, 0, 0, 3) = 3; read(0, 0) = 2; read(0, 1) = 3; read(0, 2) = 4; read(0, 3) = 4", four + """
            shift(0, 1, 1, 0, 3) = 3; read(1, 0) = 2; read(1, 1) = 3; read(1, 2) = 4; read(0, 1) = 2; shift(0, 3, 1, 2, 1) = 1
            read(1, 2) = 4; shift(1, 0, 0, 3, 1) = 1; read(0, 3) = 2
            """, four + "shift(0, 0, 0, 0, 4) = 4; read(0, 0) = 1; read(0, 3) = 4; shift(0, 0, 1, 0, 0) = 0; shift(0, 4, 1, 3, 0) = 0"
                + "; read(1, 0) = 9; tape(2, 2, 0); shift(2, 0, 2, 0, 0) = 0; shift(2, 0, 0, 4, 0) = 0",
            "tape(0, 4, 60); item(0, 0, 1); tape(5, 4, 60); shift(0, 0, 5, 0, 60) = 60; read(5, 0) = 1; read(5, 59) = 0"
                + "; shift(5, 0, 5, 59, 1) = 1; read(5, 59) = 1; shift(5, 0, 5, 1, 59) = 59; read(5, 1) = 1; read(5, 2) = 0");
        s.promise(34, "NONE: tapes;", RICH + """
            shift(-1, 0, 0, 0, 1) = NONE; shift(6, 0, 0, 0, 1) = NONE; shift(0, 0, -1, 0, 1) = NONE; shift(0, 0, 6, 0, 1) = NONE
            shift(MIN, 0, 0, 0, 1) = NONE; shift(0, 0, MAX, 0, 1) = NONE; shift(5, 0, 6, 0, 1) = NONE; shift(6, 0, 5, -1, 1) = NONE
            """);
        s.promise(34, "NOTHING;", RICH + """
            shift(0, 0, 5, 0, 1) = NOTHING; shift(5, 0, 0, 0, 1) = NOTHING; shift(5, 0, 5, 0, 0) = NOTHING; shift(5, -1, 1, 0, 1) = NOTHING
            """);
        s.promise(34, "CAST: of unlike sorts;", RICH + """
            shift(0, 0, 1, 0, 1) = CAST; shift(1, 0, 0, 0, 1) = CAST; shift(1, 0, 0, 0, 0) = CAST; shift(1, -1, 0, 0, -1) = CAST
            tape(2, 4, 2); shift(1, 0, 2, 0, 1) = CAST; tape(2, 2, 2); tape(3, 3, 2); shift(2, 0, 3, 0, 1) = CAST
            shift(0, 0, 3, 0, 1) = CAST
            """);
        s.promise(34, "PLACE: n, i or j is below 0, or beyond either's end.", four + """
            shift(0, 0, 1, 0, -1) = PLACE; shift(0, -1, 1, 0, 1) = PLACE; shift(0, 0, 1, -1, 1) = PLACE; shift(0, 0, 1, 0, 4) = PLACE
            shift(0, 0, 1, 0, 5) = PLACE; shift(0, 2, 1, 0, 3) = PLACE; shift(0, 0, 1, 1, 3) = PLACE; shift(0, 5, 1, 0, 0) = PLACE
            shift(0, 0, 1, 4, 0) = PLACE; shift(0, 4, 1, 0, 1) = PLACE; shift(0, 0, 1, 3, 1) = PLACE; shift(0, 0, 0, 1, 4) = PLACE
            shift(0, MIN, 1, 0, 1) = PLACE; shift(0, 0, 1, MIN, 1) = PLACE; shift(0, 0, 1, 0, MIN) = PLACE; shift(0, MAX, 1, 0, 1) = PLACE
            shift(0, 0, 1, MAX, 1) = PLACE; shift(0, 1, 1, 1, MAX) = PLACE; shift(0, MAX, 1, MAX, MAX) = PLACE; shift(0, MIN, 1, 0, MIN) = PLACE
            read(0, 3) = 4; read(1, 0) = 9; shift(0, 1, 1, 0, 3) = 3
            """, RICH + "shift(0, 1, 0, 2, 3) = PLACE; shift(0, 3, 0, 0, 2) = PLACE; shift(1, 0, 1, 1, 2) = PLACE; shift(0, 1, 0, 2, 2) = 2");
    }
}
