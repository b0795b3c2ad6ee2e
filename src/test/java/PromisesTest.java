/** One method for each promise of the document: ordinary inputs, its edges, wrong inputs. */
public final class PromisesTest {
    private static final int MIN = Integer.MIN_VALUE;
    private static final int MAX = Integer.MAX_VALUE;
    private static final long NO = Long.MIN_VALUE;
    private static final Due d = new Due();

    public static void main(String[] args) {
        promise1NewObject();
        promise2Rocket();
        promise3Of();
        promise3OfLightByKind();
        promise3OfBrightest();
        promise3OfGift();
        promise3OfSizes();
        promise4Set();
        promise5Light();
        promise6Grieve();
        promise7Rain();
        promise8Row();
        promise9Feed();
        promise10Show();
        promise10ShowFaults();
        promise10ShowTests();
        promise10ShowJoins();
        promise11Told();
        promise11ToldEnough();
        promise12Pass();
        promise13On();
        promise14Best();
        promise15Mark();
        promise16Wrong();
        promise17Can();
        promise18Odds();
        promise19Mean();
        promise20Plan();
        promise21Ends();
        promise22Book();
        promise23Looked();
        promise24Judge();
        promise25Image();
        promise26Undo();
        promise27Act();
        promise28Trace();
        promise29Taken();
        promise30Count();
        promise31Tape();
        promise32Item();
        promise33Read();
        promise34Shift();
        d.end();
    }

    private static void promise1NewObject() {
        FireApologies x = new FireApologies();
        d.due("1 NO", FireApologies.NO, NO);
        d.due("1 constants", FireApologies.NONE * 1000 + FireApologies.BAD * 100
            + FireApologies.STATE * 10 + FireApologies.FULL, -1234);
        for (int what = 0; what <= 6; what++) {
            d.due("1 count(" + what + ")", x.count(what), 0);
        }
        d.due("1 told(0)", x.told(0), 0);
        d.due("1 told(1)", x.told(1), 2);
        d.due("1 told(2)", x.told(2), 15);
        d.due("1 told(3)", x.told(3), 0);
        d.due("1 told(4)", x.told(4), 0);
        d.due("1 told(5)", x.told(5), 0);
        for (int k = 0; k < 4; k++) {
            d.due("1 told(10 + " + k + ")", x.told(10 + k), 0);
            d.due("1 told(20 + " + k + ")", x.told(20 + k), 0);
        }
        for (int tape = 0; tape < 6; tape++) {
            d.due("1 read(" + tape + ", 0)", x.read(tape, 0), NO);
            d.due("1 item(" + tape + ", 0, 1)", x.item(tape, 0, 1), -11);
        }
        d.due("1 of(0, 0)", x.of(0, 0), -10001);
        d.due("1 undo()", x.undo(), -3);
        d.due("1 trace(0)", x.trace(0), -1);
        FireApologies y = new FireApologies();
        x.rocket(0, 0, 0, 0);
        d.due("1 two objects are two", y.count(0), 0);
    }

    private static void promise2Rocket() {
        FireApologies x = new FireApologies();
        d.due("2 kind -1", x.rocket(-1, 0, 0, 0), -1);
        d.due("2 kind 7", x.rocket(7, 0, 0, 0), -1);
        d.due("2 kind MIN", x.rocket(MIN, 0, 0, 0), -1);
        d.due("2 kind MAX", x.rocket(MAX, 0, 0, 0), -1);
        d.due("2 person -1", x.rocket(0, 0, 0, -1), -1);
        d.due("2 person 4", x.rocket(0, 0, 0, 4), -1);
        d.due("2 person ahead of v", x.rocket(0, 10, 0, 4), -1);
        d.due("2 v -1", x.rocket(0, -1, 0, 0), -2);
        d.due("2 v 10", x.rocket(0, 10, 0, 0), -2);
        d.due("2 size -1", x.rocket(0, 0, -1, 0), -2);
        d.due("2 size 21", x.rocket(0, 0, 21, 0), -2);
        d.due("2 nothing came", x.count(0), 0);
        d.due("2 first", x.rocket(6, 9, 20, 3), 0);
        d.due("2 kind", x.of(0, 0), 6);
        d.due("2 v", x.of(0, 1), 9);
        d.due("2 size", x.of(0, 2), 20);
        d.due("2 whom", x.of(0, 3), 3);
        d.due("2 damp", x.of(0, 4), 0);
        d.due("2 state", x.of(0, 5), 0);
        for (int k = 1; k < 6; k++) {
            d.due("2 the next", x.rocket(k, 0, 0, 0), k);
        }
        d.due("2 full", x.rocket(0, 0, 0, 0), -4);
        d.due("2 none ahead of full", x.rocket(7, 0, 0, 0), -1);
        d.due("2 bad ahead of full", x.rocket(0, 0, 21, 0), -2);
        d.due("2 six", x.count(0), 6);
    }

    private static void promise3Of() {
        FireApologies x = new FireApologies();
        x.rocket(3, 7, 11, 2);
        x.set(0, 1, 45);
        int[] want = {3, 7, 11, 2, 45, 0, 18};
        for (int what = 0; what < want.length; what++) {
            d.due("3 of(0, " + what + ")", x.of(0, what), want[what]);
        }
        d.due("3 no what -1", x.of(0, -1), -10001);
        d.due("3 no what 11", x.of(0, 11), -10001);
        d.due("3 no what MAX", x.of(0, MAX), -10001);
        d.due("3 no rocket -1", x.of(-1, 0), -10001);
        d.due("3 no rocket 1", x.of(1, 0), -10001);
        d.due("3 no rocket MIN", x.of(MIN, 6), -10001);
        x.light(0);
        d.due("3 state", x.of(0, 5), 2);
        d.due("3 light whatever the state", x.of(0, 6), 18);
        x.rocket(0, 0, 0, 0);
        x.set(1, 1, 99);
        d.due("3 light below 0", x.of(1, 6), -9);
        x.light(1);
        d.due("3 fizzed", x.of(1, 5), 1);
    }

    private static void promise3OfLightByKind() {
        FireApologies x = new FireApologies();
        x.rocket(0, 4, 10, 0);
        x.rocket(1, 4, 10, 0);
        x.rocket(2, 4, 10, 0);
        x.rocket(3, 4, 10, 0);
        x.rocket(4, 4, 10, 0);
        x.rocket(5, 4, 10, 0);
        for (int p = 0; p < 6; p++) {
            x.set(p, 1, 19);
        }
        int[] atFirst = {19, 23, 9, 19, 23, 18};
        for (int p = 0; p < 6; p++) {
            d.due("3 light of kind " + p, x.of(p, 6), atFirst[p]);
        }
        x.light(0);
        x.light(2);
        d.due("3 cake, two seen", x.of(4, 6), 27);
        x.light(4);
        d.due("3 cake, itself seen, too", x.of(4, 6), 29);
        x.rain(0, 4);
        d.due("3 frame in rain of v", x.of(3, 6), 19);
        x.rain(0, 5);
        d.due("3 frame in rain above v", x.of(3, 6), 0);
        x.rain(0, 0);
        int[] wheel = {18, 9, 9, 18};
        for (int minute = 0; minute < 4; minute++) {
            x.set(5, 1, 19);
            d.due("3 wheel in minute " + minute, x.of(5, 6), wheel[minute]);
            x.pass(1);
        }
        FireApologies y = new FireApologies();
        y.rocket(2, 0, 0, 0);
        y.rocket(5, 0, 0, 0);
        y.rocket(6, 1, 3, 0);
        y.set(0, 1, 79);
        y.set(1, 1, 79);
        d.due("3 half is cut toward 0", y.of(0, 6), -3);
        d.due("3 twice the half", y.of(1, 6), -6);
        for (int part = 0; part < 4; part++) {
            y.row(2, part, part + 5);
        }
        y.rain(2, 2);
        int[] told = {11, 12, 7, 14, 11};
        for (int minute = 0; minute < told.length; minute++) {
            y.set(2, 1, 0);
            d.due("3 told in minute " + minute, y.of(2, 6), told[minute]);
            y.pass(1);
        }
    }

    private static void promise3OfBrightest() {
        FireApologies x = new FireApologies();
        x.rocket(0, 0, 5, 0);
        d.due("3 brightest now", x.of(0, 7), 0);
        d.due("3 that light", x.of(0, 8), 10);
        x.set(0, 1, 30);
        d.due("3 brightest when damp is 8", x.of(0, 7), 11);
        d.due("3 that light, drier", x.of(0, 8), 10);
        x.set(0, 1, 60);
        d.due("3 the twentieth is one of these", x.of(0, 8), 8);
        d.due("3 brightest when damp is below 30", x.of(0, 7), 16);
        d.due("3 show", Due.show(x, "bright 9 m=0;bright 8 m=9;dry 0"), 0);
        x.set(0, 1, 0);
        d.due("3 first of several", x.of(0, 7), 0);
        x.pass(1);
        d.due("3 in nine minutes", x.of(0, 7), 9);
        d.due("3 light in nine minutes", x.of(0, 8), 19);
        Due.show(x, "bright 5 m=1&!p=0");
        x.rocket(3, 0, 0, 0);
        x.set(1, 1, 99);
        for (int k = 0; k < 4; k++) {
            x.rain(k, 9);
        }
        d.due("3 frame all in rain", x.of(1, 7), 0);
        d.due("3 frame's light all in rain", x.of(1, 8), 0);
        d.due("3 changes nothing", x.told(0), 1);
        FireApologies y = new FireApologies();
        y.rocket(0, 0, 0, 0);
        y.set(0, 1, 49);
        d.due("3 in 20 minutes damp is 9", y.of(0, 7), 20);
        y.set(0, 1, 50);
        d.due("3 in 21 it is too late", y.of(0, 7), 16);
        d.due("3 below 0", y.of(0, 8), -1);
    }

    private static void promise3OfGift() {
        FireApologies x = new FireApologies();
        x.rocket(0, 0, 10, 0);
        d.due("3 gift, all even", x.of(0, 9), 0);
        x.grieve(0, 30);
        x.grieve(1, 20);
        x.grieve(2, 20);
        d.due("3 gift to the first who is even by it", x.of(0, 9), 1);
        x.grieve(1, 25);
        x.grieve(2, 21);
        d.due("3 gift, none even: the first of equal grief", x.of(0, 9), 0);
        x.grieve(0, 5);
        x.grieve(3, 19);
        d.due("3 gift, least grief of those that are even", x.of(0, 9), 3);
        x.rocket(1, 3, 10, 3);
        d.due("3 gift, another one is for 3", x.of(0, 9), 0);
        x.light(0);
        d.due("3 gift of one lit: nothing changes by it", x.of(0, 9), 0);
        d.due("3 whom it is for stays", x.of(1, 3), 3);
        d.due("3 grief stays", x.told(3), 65);
        FireApologies y = new FireApologies();
        y.rocket(0, 0, 5, 0);
        y.rocket(4, 0, 0, 3);
        y.grieve(2, 2);
        y.grieve(1, 10);
        d.due("3 gift of a cake: what is lit ahead of it counts", y.of(1, 9), 2);
        d.due("3 gift of the first", y.of(0, 9), 1);
    }

    private static void promise3OfSizes() {
        FireApologies x = new FireApologies();
        x.rocket(2, 0, 20, 0);
        x.rocket(0, 0, 20, 0);
        d.due("3 sizes, nothing marked", x.of(0, 10), (1 << 21) - 1);
        x.mark(1, 0, 40);
        d.due("3 sizes, another one is marked", x.of(0, 10), (1 << 21) - 1);
        d.due("3 sizes of the other", x.of(1, 10), 1 << 20);
        x.mark(0, 0, 7);
        d.due("3 sizes of a whistle", x.of(0, 10), 1 << 7);
        x.set(0, 1, 15);
        d.due("3 sizes by damp", x.of(0, 10), 1 << 8);
        x.mark(0, 3, 8);
        d.due("3 sizes by two rows", x.of(0, 10), 1 << 8);
        x.mark(0, 0, 8);
        d.due("3 sizes, rows that do not agree", x.of(0, 10), 0);
        x.mark(-1, 0, 0);
        x.mark(1, 0, 0);
        x.set(1, 1, 90);
        d.due("3 sizes, below 0 is as 0", x.of(1, 10), 0b11111);
        Due.show(x, "bright 6 s<3;dim 50 s>9");
        d.due("3 sizes, the show sees them", x.of(1, 10), (0b11111 & ~0b100) | 0b111111111110000000000 | 1 << 3);
        d.due("3 size stays", x.of(1, 2), 20);
    }

    private static void promise4Set() {
        FireApologies x = new FireApologies();
        x.rocket(1, 2, 3, 1);
        d.due("4 size", x.set(0, 0, 20), 3);
        d.due("4 size again", x.set(0, 0, 0), 20);
        d.due("4 damp", x.set(0, 1, 99), 0);
        d.due("4 damp again", x.set(0, 1, 0), 99);
        d.due("4 whom", x.set(0, 2, 3), 1);
        d.due("4 whom again", x.set(0, 2, 0), 3);
        d.due("4 size 21", x.set(0, 0, 21), -2);
        d.due("4 size -1", x.set(0, 0, -1), -2);
        d.due("4 damp 100", x.set(0, 1, 100), -2);
        d.due("4 damp -1", x.set(0, 1, -1), -2);
        d.due("4 whom 4", x.set(0, 2, 4), -2);
        d.due("4 whom -1", x.set(0, 2, -1), -2);
        d.due("4 no rocket", x.set(1, 0, 0), -1);
        d.due("4 no rocket -1", x.set(-1, 0, 0), -1);
        d.due("4 no what", x.set(0, 3, 0), -1);
        d.due("4 no what -1", x.set(0, -1, 0), -1);
        d.due("4 none ahead of bad", x.set(0, 3, -1), -1);
        d.due("4 size is", x.of(0, 2), 0);
        d.due("4 damp is", x.of(0, 4), 0);
        d.due("4 whom is", x.of(0, 3), 0);
        d.due("4 v is", x.of(0, 1), 2);
        x.light(0);
        d.due("4 one that is lit, too", x.set(0, 1, 50), 0);
        d.due("4 its damp", x.of(0, 4), 50);
    }

    private static void promise5Light() {
        FireApologies x = new FireApologies();
        x.rocket(0, 0, 5, 1);
        x.rocket(0, 0, 0, 1);
        x.rocket(0, 0, 1, 2);
        x.grieve(1, 25);
        x.grieve(2, 1);
        d.due("5 seen", x.light(0), 2);
        d.due("5 its state", x.of(0, 5), 2);
        d.due("5 grief", x.told(21), 15);
        d.due("5 again", x.light(0), -3);
        d.due("5 grief stays", x.told(21), 15);
        d.due("5 light 0 is fizzed", x.light(1), 1);
        d.due("5 fizzed again", x.light(1), -3);
        d.due("5 grief, fizzed", x.told(21), 15);
        d.due("5 seen, small", x.light(2), 2);
        d.due("5 grief 0 at least", x.told(22), 0);
        d.due("5 others' grief", x.told(3), 15);
        d.due("5 no rocket", x.light(3), -1);
        d.due("5 no rocket -1", x.light(-1), -1);
        d.due("5 no rocket MAX", x.light(MAX), -1);
        d.due("5 no minute goes", x.told(0), 0);
        FireApologies y = new FireApologies();
        y.rocket(0, 0, 0, 0);
        y.set(0, 1, 90);
        y.grieve(0, 10);
        d.due("5 light below 0", y.light(0), 1);
        d.due("5 grief is no more by it", y.told(20), 10);
        y.rocket(4, 0, 0, 0);
        d.due("5 a cake of no light is not seen ahead of itself", y.light(1), 1);
        y.rocket(1, 1, 0, 0);
        d.due("5 light 1", y.light(2), 2);
        d.due("5 grief is 1 less", y.told(20), 9);
    }

    private static void promise6Grieve() {
        FireApologies x = new FireApologies();
        for (int q = 0; q < 4; q++) {
            d.due("6 first", x.grieve(q, 100 + q), 0);
        }
        d.due("6 most", x.grieve(3, 999), 103);
        d.due("6 least", x.grieve(0, 0), 100);
        d.due("6 bad 1000", x.grieve(0, 1000), -2);
        d.due("6 bad -1", x.grieve(0, -1), -2);
        d.due("6 none 4", x.grieve(4, 0), -1);
        d.due("6 none -1", x.grieve(-1, 0), -1);
        d.due("6 none ahead of bad", x.grieve(4, 1000), -1);
        d.due("6 told(20)", x.told(20), 0);
        d.due("6 told(21)", x.told(21), 101);
        d.due("6 told(22)", x.told(22), 102);
        d.due("6 told(23)", x.told(23), 999);
    }

    private static void promise7Rain() {
        FireApologies x = new FireApologies();
        for (int k = 0; k < 4; k++) {
            d.due("7 first", x.rain(k, k + 6), 0);
            d.due("7 told", x.told(10 + k), k + 6);
        }
        d.due("7 was", x.rain(3, 0), 9);
        d.due("7 bad 10", x.rain(0, 10), -2);
        d.due("7 bad -1", x.rain(0, -1), -2);
        d.due("7 none 4", x.rain(4, 0), -1);
        d.due("7 none -1", x.rain(-1, 0), -1);
        d.due("7 none ahead of bad", x.rain(-1, 10), -1);
        d.due("7 stays", x.told(10), 6);
    }

    private static void promise8Row() {
        FireApologies x = new FireApologies();
        x.rocket(6, 9, 0, 0);
        x.rocket(3, 9, 0, 0);
        for (int part = 0; part < 4; part++) {
            d.due("8 first", x.row(0, part, 9 - part), 0);
        }
        d.due("8 whom it is for and its state", x.of(0, 3) * 10 + x.of(0, 5), 0);
        for (int part = 0; part < 4; part++) {
            d.due("8 light in its minute", x.of(0, 6), 9 - part);
            d.due("8 was", x.row(0, part, part), 9 - part);
            x.pass(1);
        }
        d.due("8 its state stays", x.of(0, 5), 0);
        d.due("8 another kind", x.row(1, 0, 0), -3);
        d.due("8 bad ahead of another kind", x.row(1, 0, 10), -2);
        d.due("8 bad -1", x.row(0, 0, -1), -2);
        d.due("8 bad 10", x.row(0, 0, 10), -2);
        d.due("8 no part 4", x.row(0, 4, 0), -1);
        d.due("8 no part -1", x.row(0, -1, 0), -1);
        d.due("8 none ahead of bad", x.row(0, 4, 10), -1);
        d.due("8 no rocket 2", x.row(2, 0, 0), -1);
        d.due("8 no rocket -1", x.row(-1, 0, 0), -1);
        d.due("8 stays", x.row(0, 3, 0), 3);
    }

    private static void promise9Feed() {
        FireApologies x = new FireApologies();
        d.due("9 bad -1", x.feed(-1), -2);
        d.due("9 bad 128", x.feed(128), -2);
        d.due("9 bad MIN", x.feed(MIN), -2);
        d.due("9 sign 0", x.feed(0), 1);
        d.due("9 sign 127", x.feed(127), 2);
        for (int k = 3; k <= 100; k++) {
            d.due("9 how many", x.feed('d'), k);
        }
        d.due("9 full", x.feed('d'), -4);
        d.due("9 bad ahead of full", x.feed(128), -2);
        d.due("9 bytes", x.count(5), 100);
        d.due("9 sign 0 is a fault", x.show(), -10);
        d.due("9 empty then", x.count(5), 0);
        d.due("9 feeds again", x.feed('d'), 1);
    }

    private static void promise10Show() {
        FireApologies x = new FireApologies();
        x.rocket(0, 0, 10, 0);
        d.due("10 first", Due.show(x, "bright 7 p=0;dry 9"), 0);
        d.due("10 text is empty", x.count(5), 0);
        d.due("10 light", x.of(0, 6), 27);
        d.due("10 dry", x.told(1), 9);
        d.due("10 second holds", Due.show(x, "dim 30 p=0"), 1);
        d.due("10 light by the second", x.of(0, 6), -10);
        d.due("10 dry without", x.told(1), 2);
        d.due("10 fault", Due.show(x, "dim 30"), -16);
        d.due("10 text is empty by a fault, too", x.count(5), 0);
        d.due("10 the one that held holds", x.of(0, 6), -10);
        d.due("10 the last dry", Due.show(x, "dry 1;dry 05;bright 1 p=0;dry 3;dim 2 p=0"), 2);
        d.due("10 dry 3", x.told(1), 3);
        d.due("10 light together", x.of(0, 6), 19);
        d.due("10 ten clauses", Due.show(x, "dry 1;dry 2;dry 3;dry 4;dry 5;dry 6;dry 7;dry 8;dry 9;dry 10"), 3);
        d.due("10 dry 10", x.told(1), 10);
        d.due("10 eleven clauses",
            Due.show(x, "dry 1;dry 2;dry 3;dry 4;dry 5;dry 6;dry 7;dry 8;dry 9;dry 10;dry 11"), -10 - 60);
        d.due("10 fifth", Due.show(x, "dry 0"), 4);
        d.due("10 dry 0", x.told(1), 0);
        d.due("10 sixth", Due.show(x, "dry 99"), 5);
        d.due("10 six", x.count(1), 6);
        Due.feed(x, "dry");
        d.due("10 full ahead of fault", x.show(), -4);
        d.due("10 text stays", x.count(5), 3);
        d.due("10 full again", x.show(), -4);
        d.due("10 the sixth holds", x.told(1), 99);
        FireApologies y = new FireApologies();
        y.rocket(0, 0, 0, 0);
        String text = "bright 99 p=1|p=2|!(p=0|!(p=0|k=05))|!!!!p<1;dim 11 p>0|k>0;dim 01 k=0&v<9&s<1&w<1&m<1;dry 05;dry 07";
        d.due("10 a hundred bytes", text.length(), 100);
        d.due("10 show of a hundred bytes", Due.show(y, text), 0);
        d.due("10 its light", y.of(0, 6), 98);
        d.due("10 its dry", y.told(1), 7);
    }

    private static void fault(String text, int place) {
        FireApologies x = new FireApologies();
        d.due("10 fault of \"" + text + "\"", Due.show(x, text), -10 - place);
        d.due("10 no show by \"" + text + "\"", x.count(1), 0);
    }

    private static void good(String text) {
        d.due("10 show \"" + text + "\"", Due.show(new FireApologies(), text), 0);
    }

    private static void promise10ShowFaults() {
        fault("", 0);
        fault("x", 0);
        fault(" dry 1", 0);
        fault("Dry 1", 0);
        fault("b", 1);
        fault("brigth 1 p=1", 4);
        fault("brightx", 6);
        fault("bright", 6);
        fault("bright ", 7);
        fault("bright  1 p=1", 7);
        fault("bright x", 7);
        fault("bright 1", 8);
        fault("bright 1;", 8);
        fault("bright 12", 9);
        fault("bright 1 ", 9);
        fault("bright 1  p=1", 9);
        fault("bright 1 p", 10);
        fault("bright 1 p 1", 10);
        fault("bright 1 p!1", 10);
        fault("bright 1 p=", 11);
        fault("bright 1 p=x", 11);
        fault("bright 1 p==1", 11);
        fault("bright 1 p=123", 13);
        fault("bright 1 p=1 ", 12);
        fault("bright 1 p=1)", 12);
        fault("bright 1 p=1&", 13);
        fault("bright 1 p=1&&p=1", 13);
        fault("bright 1 p=1|", 13);
        fault("bright 1 p=1|;", 13);
        fault("bright 1 ()", 10);
        fault("bright 1 (p=1", 13);
        fault("bright 1 (p=1;", 13);
        fault("bright 1 (p=1))", 14);
        fault("bright 1 !", 10);
        fault("bright 1 !&", 10);
        fault("bright 1 q=1", 9);
        fault("bright 1 P=1", 9);
        fault("d", 1);
        fault("dx", 1);
        fault("dimm", 3);
        fault("dim1", 3);
        fault("dr", 2);
        fault("dry", 3);
        fault("dry ", 4);
        fault("dry p", 4);
        fault("dry -1", 4);
        fault("dry 100", 6);
        fault("dry 1 ", 5);
        fault("dry 1;", 6);
        fault("dry 1;;", 6);
        fault("dry 1; dry 2", 6);
        fault("dry 1,dry 2", 5);
        fault("dry 1;dim 1 m<1;b", 17);
        good("dry 1");
        good("dry 00");
        good("dim 1 p=1");
        good("dim 99 ((((p=1))))");
        good("dim 99 !!!!p=1");
        good("dim 99 !(!(p=1))");
        good("dim 9 (!(!k>1&k<9))&(!(!k>1&k<9))");
        fault("dim 99 (((((p=1)))))", 11);
        fault("dim 99 !!!!!p=1", 11);
        fault("dim 99 !(!(!p=1))", 11);
        fault("dim 99 !!(((p=1)))", 11);
        fault("dim 99 ((((p=1&(k=1)))))", 15);
        fault("dim 99 !!!!(p=1)", 11);
        StringBuilder open = new StringBuilder("dry 1;dry 2;dim 1 p=1");
        while (open.length() < 97) {
            open.append("&p=1");
        }
        fault(open.append("&p=").substring(0, 100), 100);
    }

    /** Which of the rockets 0 .. 5 the E of a clause holds for, as bits. */
    private static int holds(FireApologies x, String e) {
        int[] was = new int[6];
        FireApologies y = new FireApologies();
        int bits = 0;
        for (int p = 0; p < 6; p++) {
            y.rocket(x.of(p, 0), x.of(p, 1), x.of(p, 2), 0);
            y.set(p, 1, x.of(p, 4));
        }
        y.pass(x.told(0));
        for (int p = 0; p < 6; p++) {
            y.set(p, 1, x.of(p, 4));
            was[p] = y.of(p, 6);
        }
        d.due("10 show of " + e, Due.show(y, "bright 90 " + e), 0);
        for (int p = 0; p < 6; p++) {
            bits |= (y.of(p, 6) != was[p] ? 1 : 0) << p;
        }
        return bits;
    }

    private static FireApologies six() {
        FireApologies x = new FireApologies();
        x.rocket(0, 0, 0, 0);
        x.rocket(1, 9, 20, 0);
        x.rocket(2, 3, 12, 0);
        x.rocket(0, 3, 10, 0);
        x.rocket(4, 5, 9, 0);
        x.rocket(5, 6, 1, 0);
        x.pass(14);
        x.set(1, 1, 9);
        x.set(2, 1, 10);
        x.set(3, 1, 19);
        x.set(4, 1, 20);
        x.set(5, 1, 99);
        return x;
    }

    private static void promise10ShowTests() {
        FireApologies x = six();
        d.due("10 p=0", holds(x, "p=0"), 0b000001);
        d.due("10 p<2", holds(x, "p<2"), 0b000011);
        d.due("10 p>2", holds(x, "p>2"), 0b111000);
        d.due("10 k=0", holds(x, "k=0"), 0b001001);
        d.due("10 k>1", holds(x, "k>1"), 0b110100);
        d.due("10 k<5", holds(x, "k<05"), 0b011111);
        d.due("10 v=3", holds(x, "v=3"), 0b001100);
        d.due("10 v<3", holds(x, "v<3"), 0b000001);
        d.due("10 v>5", holds(x, "v>5"), 0b100010);
        d.due("10 s=10", holds(x, "s=10"), 0b001000);
        d.due("10 s>9", holds(x, "s>9"), 0b001110);
        d.due("10 s<12", holds(x, "s<12"), 0b111001);
        d.due("10 w=1", holds(x, "w=1"), 0b001100);
        d.due("10 w<1", holds(x, "w<1"), 0b000011);
        d.due("10 w>8", holds(x, "w>8"), 0b100000);
        d.due("10 m=4", holds(x, "m=4"), 0b111111);
        d.due("10 m=14", holds(x, "m=14"), 0);
        d.due("10 m<4", holds(x, "m<4"), 0);
        d.due("10 m>3", holds(x, "m>3"), 0b111111);
    }

    private static void promise10ShowJoins() {
        FireApologies x = six();
        d.due("10 &", holds(x, "p<4&p>1"), 0b001100);
        d.due("10 |", holds(x, "p<1|p>4"), 0b100001);
        d.due("10 !", holds(x, "!p<4"), 0b110000);
        d.due("10 !!", holds(x, "!!p<4"), 0b001111);
        d.due("10 ! binds first", holds(x, "!p=0&!p=1|p=0"), 0b111101);
        d.due("10 & ahead of |", holds(x, "p=0|p=1&p=2"), 0b000001);
        d.due("10 & ahead of |, the other way", holds(x, "p=2&p=1|p=0"), 0b000001);
        d.due("10 brackets", holds(x, "(p=0|p=1)&p=1"), 0b000010);
        d.due("10 brackets on the right", holds(x, "p=1&(p=0|p=1)"), 0b000010);
        d.due("10 ! of brackets", holds(x, "!(p=0|p=1)&p<4"), 0b001100);
        d.due("10 many |", holds(x, "p=0|p=2|p=4|p=5"), 0b110101);
        d.due("10 many &", holds(x, "p>0&p>1&p<5&p<4"), 0b001100);
        d.due("10 mixed", holds(x, "p=0&v=0|p=1&v=0|p=2&v=3|p=3"), 0b001101);
        d.due("10 deep", holds(x, "p=5|(p=0|(p=1&(p=2|!p=2)|p=9)&p<9)"), 0b100011);
        d.due("10 deep not", holds(x, "!(p=0|!(p=0|p=1|p=2))"), 0b000110);
    }

    private static void promise11Told() {
        FireApologies x = new FireApologies();
        x.rocket(0, 0, 1, 0);
        x.rocket(0, 0, 0, 1);
        x.rocket(0, 0, 5, 2);
        x.grieve(1, 7);
        x.grieve(3, 999);
        x.rain(1, 5);
        x.rain(3, 8);
        x.pass(2);
        x.light(0);
        x.light(1);
        d.due("11 minute", x.told(0), 2);
        d.due("11 dry", x.told(1), 2);
        d.due("11 even", x.told(2), 0b0101);
        d.due("11 grief", x.told(3), 1006);
        d.due("11 unlit", x.told(4), 0b100);
        d.due("11 seen", x.told(5), 0b001);
        int[] none = {-1, 6, 7, 8, 9, 14, 19, 24, 29, 34, 39, 40, 43, 100, -10, MIN, MAX};
        for (int what : none) {
            d.due("11 told(" + what + ")", x.told(what), -1);
        }
        int[] rains = {0, 5, 0, 8};
        int[] griefs = {0, 7, 0, 999};
        for (int k = 0; k < 4; k++) {
            d.due("11 rain " + k, x.told(10 + k), rains[k]);
            d.due("11 grief " + k, x.told(20 + k), griefs[k]);
        }
    }

    private static void promise11ToldEnough() {
        FireApologies x = new FireApologies();
        d.due("11 enough, even", x.told(30), 0);
        x.grieve(0, 11);
        d.due("11 enough, no rockets", x.told(30), -5);
        x.rocket(0, 0, 3, 0);
        x.rocket(0, 0, 20, 1);
        x.rocket(0, 0, 5, 0);
        x.rocket(0, 0, 3, 0);
        d.due("11 enough, the least as bits of two", x.told(30), 0b000101);
        x.rocket(0, 0, 6, 0);
        d.due("11 fewest ahead of least", x.told(30), 0b010000);
        d.due("11 enough for another who is even", x.told(31), 0);
        x.light(4);
        d.due("11 even then", x.told(30), 0);
        x.grieve(0, 22);
        d.due("11 only those that are unlit", x.told(30), 0b001101);
        x.grieve(0, 23);
        d.due("11 none is enough", x.told(30), -5);
        d.due("11 grief stays", x.told(20), 23);
        FireApologies z = new FireApologies();
        for (int p = 0; p < 6; p++) {
            z.rocket(0, 0, 1, 0);
        }
        for (int n = 1; n <= 6; n++) {
            z.grieve(0, 2 * n);
            d.due("11 enough, " + n, z.told(30), (1 << n) - 1);
        }
        FireApologies y = new FireApologies();
        y.rocket(0, 0, 1, 3);
        y.rocket(4, 0, 1, 2);
        y.rocket(0, 0, 1, 3);
        y.grieve(2, 4);
        d.due("11 one that is for another helps a cake", y.told(32), 0b011);
        y.grieve(2, 5);
        d.due("11 but not behind it", y.told(32), -5);
    }

    private static void promise12Pass() {
        FireApologies x = new FireApologies();
        x.rocket(0, 0, 9, 0);
        x.rocket(0, 0, 9, 0);
        x.rain(0, 9);
        x.rain(1, 1);
        x.light(1);
        d.due("12 none", x.pass(0), 0);
        d.due("12 one", x.pass(1), 1);
        d.due("12 damp by rain of its minute", x.of(0, 4), 25);
        d.due("12 damp of one lit", x.of(1, 4), 0);
        d.due("12 one more", x.pass(1), 2);
        d.due("12 damp 3 more, 2 less", x.of(0, 4), 26);
        d.due("12 two more", x.pass(2), 4);
        d.due("12 dries", x.of(0, 4), 22);
        d.due("12 rain comes again", x.pass(1), 5);
        d.due("12 rain of minute 4", x.of(0, 4), 47);
        x.set(0, 1, 98);
        x.rain(1, 5);
        x.pass(1);
        d.due("12 damp 99 at most", x.of(0, 4), 99);
        x.set(0, 1, 1);
        x.pass(1);
        d.due("12 damp 0 at least", x.of(0, 4), 0);
        x.set(0, 1, 80);
        d.due("12 a show that dries all", Due.show(x, "dry 20"), 0);
        x.rain(3, 9);
        x.pass(1);
        d.due("12 dry is less then", x.of(0, 4), 87);
        x.set(0, 1, 90);
        x.rain(0, 9);
        x.pass(1);
        d.due("12 rain first, then dry, then the edges", x.of(0, 4), 97);
        d.due("12 bad -1", x.pass(-1), -2);
        d.due("12 bad 61", x.pass(61), -2);
        d.due("12 bad MIN", x.pass(MIN), -2);
        d.due("12 sixty", x.pass(60), 69);
        for (int k = 0; k < 165; k++) {
            x.pass(60);
        }
        d.due("12 near the end", x.pass(29), 9998);
        d.due("12 above 9999", x.pass(2), -3);
        d.due("12 bad ahead of state", x.pass(61), -2);
        d.due("12 stays", x.told(0), 9998);
        d.due("12 9999", x.pass(1), 9999);
        d.due("12 no more", x.pass(1), -3);
        d.due("12 none more", x.pass(0), 9999);
    }

    private static void promise13On() {
        FireApologies x = new FireApologies();
        x.rocket(0, 0, 10, 0);
        x.rocket(6, 9, 10, 0);
        x.row(1, 2, 7);
        x.rain(0, 4);
        x.rain(1, 2);
        x.set(1, 1, 50);
        x.light(1);
        int[] damp = {0, 10, 14, 12, 10, 20};
        int[] light = {20, 19, 19, 19, 19, 18};
        for (int n = 0; n < damp.length; n++) {
            d.due("13 damp on " + n, x.on(n, 10), damp[n]);
            d.due("13 light on " + n, x.on(n, 20), light[n]);
            d.due("13 damp of one lit", x.on(n, 11), 50);
        }
        d.due("13 row of the minute then", x.on(2, 21), 22);
        d.due("13 not of another minute", x.on(3, 21), 15);
        d.due("13 sixty", x.on(60, 10), 95);
        d.due("13 bad 61", x.on(61, 10), -2);
        d.due("13 bad -1", x.on(-1, 20), -2);
        d.due("13 none ahead of bad", x.on(61, 12), -10001);
        int[] none = {12, 15, 16, 19, 22, 26, 9, 0, -1, 30, MIN, MAX};
        for (int what : none) {
            d.due("13 on(0, " + what + ")", x.on(0, what), -10001);
        }
        d.due("13 nothing changed", x.told(0) * 1000 + x.of(0, 4), 0);
        for (int k = 0; k < 166; k++) {
            x.pass(60);
        }
        d.due("13 at the end", x.pass(39), 9999);
        d.due("13 beyond the end: minute 10002", x.on(3, 21), 22);
        Due.show(x, "bright 30 m=2");
        d.due("13 minute 10002 modulo 10 is 2", x.on(3, 21), 52);
    }

    private static void promise14Best() {
        FireApologies x = new FireApologies();
        d.due("14 no k -3", x.best(1, -3), -1);
        d.due("14 no k 3", x.best(1, 3), -1);
        d.due("14 none ahead of bad", x.best(0, 3), -1);
        d.due("14 bad 0", x.best(0, 0), -2);
        d.due("14 bad 4", x.best(4, -2), -2);
        d.due("14 bad MIN", x.best(MIN, 2), -2);
        d.due("14 no rockets", x.best(1, -2), -5);
        x.rocket(0, 0, 5, 0);
        x.grieve(0, 10);
        x.grieve(1, 30);
        d.due("14 how many", x.best(1, -2), 4 - 1);
        d.due("14 grief", x.best(1, -1), 30);
        d.due("14 the row", x.best(1, 0), 0);
        d.due("14 beyond the row", x.best(1, 1), -5);
        d.due("14 fewer than two", x.best(2, -2), -5);
        d.due("14 fewer than two, grief", x.best(2, -1), -5);
        d.due("14 fewer than two, beyond", x.best(2, 2), -5);
        x.rocket(0, 0, 20, 1);
        d.due("14 the one by which more is less, if as many are even", x.best(1, 0), 1);
        d.due("14 two", x.best(2, 0) * 10 + x.best(2, 1), 1);
        d.due("14 two: all are even", x.best(2, -2), 4);
        x.rain(0, 9);
        d.due("14 one that gets damp is lit first, if it must", x.best(2, 0), 0);
        x.grieve(0, 9);
        x.grieve(1, 40);
        d.due("14 rain makes it 2 less: the big one first", x.best(2, 0) * 10 + x.best(2, 1), 10);
        d.due("14 three even then", x.best(2, -2), 3);
        x.light(0);
        d.due("14 one is lit", x.best(2, 0), -5);
        d.due("14 the other", x.best(1, 0), 1);
        d.due("14 nothing changed", x.told(3) * 10 + x.told(4), 402);
        FireApologies y = new FireApologies();
        for (int p = 0; p < 6; p++) {
            y.rocket(0, 0, 1, 0);
        }
        d.due("14 first row of three", y.best(3, 0) * 100 + y.best(3, 1) * 10 + y.best(3, 2), 12);
        y.light(1);
        d.due("14 first row of those unlit", y.best(3, 0) * 100 + y.best(3, 1) * 10 + y.best(3, 2), 23);
        y.set(5, 0, 9);
        y.set(3, 0, 8);
        y.grieve(0, 100);
        d.due("14 least grief", y.best(2, -1), 66);
        d.due("14 least grief, first as a row", y.best(2, 0) * 10 + y.best(2, 1), 35);
        Due.show(y, "bright 9 p=5&m=0;bright 9 p=2&m=2");
        d.due("14 each in its minute", y.best(3, 0) * 100 + y.best(3, 1) * 10 + y.best(3, 2), 532);
        d.due("14 grief by that", y.best(3, -1), 100 - 27 - 16 - 11);
    }

    private static void promise15Mark() {
        FireApologies x = new FireApologies();
        d.due("15 no rocket", x.mark(0, 0, 0), -1);
        d.due("15 none then", x.mark(-1, 99, -99), 0);
        x.rocket(0, 0, 0, 0);
        d.due("15 no rocket 1", x.mark(1, 0, 0), -1);
        d.due("15 no rocket -2", x.mark(-2, 0, 0), -1);
        d.due("15 none ahead of bad", x.mark(1, 13, 0), -1);
        d.due("15 bad n 13", x.mark(0, 13, 0), -2);
        d.due("15 bad n -1", x.mark(0, -1, 0), -2);
        d.due("15 bad light 1000", x.mark(0, 0, 1000), -2);
        d.due("15 bad light -1", x.mark(0, 0, -1), -2);
        for (int k = 1; k <= 5; k++) {
            d.due("15 how many", x.mark(0, 12, 999), k);
        }
        d.due("15 full", x.mark(0, 0, 0), -4);
        d.due("15 bad ahead of full", x.mark(0, 13, 0), -2);
        d.due("15 none ahead of full", x.mark(1, 0, 0), -1);
        d.due("15 count", x.count(2), 5);
        d.due("15 none then", x.mark(-1, 0, 0), 0);
        d.due("15 count none", x.count(2), 0);
        d.due("15 again", x.mark(0, 0, 0), 1);
    }

    private static void promise16Wrong() {
        FireApologies x = new FireApologies();
        x.rocket(0, 0, 6, 0);
        x.rocket(1, 5, 0, 0);
        x.rain(0, 9);
        d.due("16 nothing marked", x.wrong(), -5);
        x.mark(0, 0, 12);
        x.mark(1, 0, 5);
        x.mark(0, 1, 10);
        d.due("16 all are so", x.wrong(), -5);
        x.mark(1, 3, 4);
        d.due("16 the fourth is not", x.wrong(), 3);
        x.set(1, 1, 99);
        d.due("16 the second is not", x.wrong(), 1);
        x.set(0, 0, 5);
        d.due("16 the first is not", x.wrong(), 0);
        x.mark(-1, 0, 0);
        x.mark(1, 0, 0);
        d.due("16 below 0 is as 0", x.wrong(), -5);
        x.mark(-1, 0, 0);
        x.set(1, 1, 0);
        x.set(1, 0, 1);
        x.mark(1, 12, 2);
        d.due("16 twelve minutes on: damp 57", x.wrong(), -5);
        x.mark(-1, 0, 0);
        x.mark(0, 1, 8);
        d.due("16 from now", x.wrong(), -5);
        x.pass(1);
        d.due("16 from when it is asked", x.wrong(), -5);
        x.pass(6);
        d.due("16 and goes on", x.wrong(), 0);
    }

    private static void promise17Can() {
        FireApologies x = new FireApologies();
        x.rocket(1, 5, 0, 0);
        x.rocket(3, 5, 7, 0);
        x.rocket(0, 5, 7, 0);
        d.due("17 nothing marked: ten", x.can(0, 0), 10);
        d.due("17 the least", x.can(0, 1), 0);
        x.mark(0, 0, 8);
        d.due("17 one", x.can(0, 0), 1);
        d.due("17 that one", x.can(0, 1), 8);
        d.due("17 of another", x.can(1, 0), 10);
        x.rain(0, 4);
        x.mark(1, 0, 14);
        d.due("17 a frame bears rain", x.can(1, 0), 6);
        d.due("17 the least that does", x.can(1, 1), 4);
        x.mark(1, 4, 0);
        d.due("17 contradicts", x.can(1, 0), 0);
        d.due("17 none", x.can(1, 1), -5);
        x.mark(2, 0, 14);
        d.due("17 any", x.can(2, 0), 10);
        Due.show(x, "dim 1 v<3;dim 1 v>8");
        d.due("17 the show sees v", x.can(2, 0), 6);
        d.due("17 the least by the show", x.can(2, 1), 3);
        d.due("17 v stays", x.of(2, 1), 5);
        d.due("17 no rocket", x.can(3, 0), -1);
        d.due("17 no rocket -1", x.can(-1, 1), -1);
        d.due("17 no what 2", x.can(0, 2), -1);
        d.due("17 no what -1", x.can(0, -1), -1);
    }

    private static void odds(FireApologies x, String what, int rocket, long above, long below) {
        d.due("18 above, " + what, x.odds(rocket, 0), above);
        d.due("18 below, " + what, x.odds(rocket, 1), below);
    }

    private static void promise18Odds() {
        FireApologies x = new FireApologies();
        x.rocket(0, 0, 1, 0);
        x.rocket(3, 3, 1, 0);
        x.rocket(0, 0, 0, 0);
        x.rocket(0, 0, 20, 0);
        odds(x, "damp below 20: rain 0 .. 7", 0, 4, 5);
        odds(x, "never", 2, 0, 1);
        odds(x, "always", 3, 1, 1);
        x.set(0, 1, 17);
        odds(x, "damp 17: rain 0 .. 1", 0, 1, 5);
        x.rain(0, 9);
        odds(x, "rain as it is does not matter", 0, 1, 5);
        x.set(0, 1, 15);
        odds(x, "damp 15: rain 0 .. 2", 0, 3, 10);
        odds(x, "frame, no rain in the next minute", 1, 4, 5);
        x.rain(1, 4);
        odds(x, "frame, rain above v in the next minute", 1, 0, 1);
        x.light(0);
        odds(x, "one lit does not get damp", 0, 1, 1);
        Due.show(x, "bright 1 m=1&p=2");
        odds(x, "the minute is 1 more", 2, 2, 5);
        d.due("18 rain stays", x.told(10), 9);
        x.pass(6);
        x.set(1, 1, 15);
        odds(x, "rain of minute 6 is the third, that of minute 7 the fourth", 1, 3, 10);
        x.rain(3, 4);
        odds(x, "frame, rain above v in minute 7", 1, 0, 1);
        d.due("18 no rocket", x.odds(4, 0), NO);
        d.due("18 no rocket -1", x.odds(-1, 1), NO);
        d.due("18 no part 2", x.odds(0, 2), NO);
        d.due("18 no part -1", x.odds(0, -1), NO);
    }

    private static void promise19Mean() {
        FireApologies x = new FireApologies();
        d.due("19 all even", x.mean(0), NO);
        d.due("19 all even, below", x.mean(1), NO);
        x.grieve(1, 6);
        d.due("19 one", x.mean(0), 6);
        d.due("19 one, below", x.mean(1), 1);
        x.grieve(3, 8);
        d.due("19 two", x.mean(0), 7);
        d.due("19 two, below", x.mean(1), 1);
        x.grieve(0, 2);
        d.due("19 three", x.mean(0), 16);
        d.due("19 three, below", x.mean(1), 3);
        x.grieve(2, 10);
        d.due("19 four", x.mean(0), 13);
        d.due("19 four, below", x.mean(1), 2);
        d.due("19 no part 2", x.mean(2), NO);
        d.due("19 no part -1", x.mean(-1), NO);
    }

    private static void promise20Plan() {
        FireApologies x = new FireApologies();
        d.due("20 a minute needs no rocket", x.plan(0, 77), 1);
        d.due("20 nor a number", x.plan(0, MIN), 2);
        d.due("20 no rocket", x.plan(1, 0), -1);
        x.rocket(0, 0, 0, 0);
        d.due("20 no what 4", x.plan(4, 0), -1);
        d.due("20 no what -2", x.plan(-2, 0), -1);
        d.due("20 no rocket 1", x.plan(1, 1), -1);
        d.due("20 no rocket, 2", x.plan(2, -1), -1);
        d.due("20 no rocket, 3", x.plan(3, 6), -1);
        for (int k = 3; k <= 10; k++) {
            d.due("20 how many", x.plan(k % 4, 0), k);
        }
        d.due("20 full", x.plan(0, 0), -4);
        d.due("20 none ahead of full", x.plan(4, 0), -1);
        d.due("20 count", x.count(3), 10);
        d.due("20 empty", x.plan(-1, 99), 0);
        d.due("20 count empty", x.count(3), 0);
        d.due("20 again", x.plan(0, 0), 1);
    }

    private static void promise21Ends() {
        FireApologies x = new FireApologies();
        x.rocket(0, 0, 5, 0);
        x.rocket(0, 0, 1, 0);
        x.grieve(0, 50);
        x.grieve(2, 7);
        d.due("21 empty", x.ends(0), 57);
        d.due("21 empty, seen", x.ends(1), 0);
        x.plan(1, 0);
        d.due("21 lit", x.ends(0), 47);
        d.due("21 lit, seen", x.ends(1), 1);
        x.plan(1, 0);
        d.due("21 lit once", x.ends(0), 47);
        x.plan(3, 0);
        d.due("21 unlit", x.ends(1), 0);
        d.due("21 unlit, grief", x.ends(0), 47);
        x.rain(0, 9);
        x.plan(0, 0);
        x.plan(1, 0);
        d.due("21 damp 25", x.ends(0), 39);
        x.plan(1, 1);
        d.due("21 the other fizzes", x.ends(1), 1);
        x.plan(3, 1);
        x.plan(2, 1);
        x.plan(1, 1);
        d.due("21 dry again", x.ends(1), 3);
        d.due("21 dry again, grief", x.ends(0), 37);
        d.due("21 no what 2", x.ends(2), -1);
        d.due("21 no what -1", x.ends(-1), -1);
        d.due("21 nothing changed", x.told(3) * 100 + x.told(4) * 10 + x.told(0), 5730);
        d.due("21 seen now", x.told(5), 0);
        x.plan(-1, 0);
        x.light(0);
        x.plan(2, 0);
        d.due("21 as all is", x.ends(1), 1);
        promise21EndsOfEmptied();
        promise21EndsByDamp();
    }

    private static void promise21EndsOfEmptied() {
        FireApologies x = new FireApologies();
        x.rocket(0, 0, 5, 0);
        x.grieve(0, 50);
        x.plan(1, 0);
        x.plan(-1, 0);
        d.due("21 emptied", x.ends(0), 50);
    }

    private static void promise21EndsByDamp() {
        FireApologies x = new FireApologies();
        x.rocket(0, 0, 5, 0);
        x.grieve(0, 50);
        x.rain(0, 4);
        x.set(0, 1, 99);
        x.plan(2, 0);
        x.plan(0, 0);
        x.plan(1, 0);
        d.due("21 damp 0, then 10", x.ends(0), 41);
        Due.show(x, "dry 3");
        d.due("21 damp 0, then 9", x.ends(0), 40);
        Due.show(x, "bright 20 m=1");
        d.due("21 one minute", x.ends(0), 50 - 29);
    }

    private static void promise22Book() {
        FireApologies x = new FireApologies();
        d.due("22 no rocket", x.book(0, 0), -1);
        d.due("22 empty", x.book(-1, 100), 0);
        x.rocket(0, 0, 0, 0);
        d.due("22 no rocket 1", x.book(1, 0), -1);
        d.due("22 no rocket -2", x.book(-2, 0), -1);
        d.due("22 none ahead of bad", x.book(1, 100), -1);
        d.due("22 bad 100", x.book(0, 100), -2);
        d.due("22 bad -1", x.book(0, -1), -2);
        for (int k = 1; k <= 8; k++) {
            d.due("22 how many", x.book(0, k == 1 ? 0 : 99), k);
        }
        d.due("22 full", x.book(0, 0), -4);
        d.due("22 bad ahead of full", x.book(0, 100), -2);
        d.due("22 none ahead of full", x.book(1, 0), -1);
        d.due("22 count", x.count(4), 8);
        d.due("22 empty then", x.book(-1, 0), 0);
        d.due("22 count empty", x.count(4), 0);
    }

    private static void promise23Looked() {
        FireApologies x = new FireApologies();
        d.due("23 empty", x.looked(), -5);
        x.rocket(0, 0, 0, 0);
        x.rocket(0, 0, 0, 0);
        x.set(1, 1, 99);
        x.book(0, 0);
        x.book(1, 99);
        x.book(0, 0);
        d.due("23 all so", x.looked(), -5);
        x.book(0, 1);
        d.due("23 the last is not", x.looked(), 3);
        x.set(1, 1, 98);
        d.due("23 the second is not", x.looked(), 1);
        x.set(0, 1, 1);
        d.due("23 the first is not", x.looked(), 0);
        x.book(-1, 0);
        d.due("23 empty again", x.looked(), -5);
    }

    private static void promise24Judge() {
        FireApologies x = new FireApologies();
        for (int q = 0; q < 4; q++) {
            x.grieve(q, 100 * q + 1);
        }
        d.due("24 no tape -1", x.judge(-1, 0), -1);
        d.due("24 no tape 6", x.judge(6, 0), -1);
        d.due("24 nothing", x.judge(0, 0), 100);
        d.due("24 nothing, below 0", x.judge(0, -1), 100);
        for (int sort = 0; sort <= 4; sort++) {
            x.tape(1, sort, 5);
            d.due("24 sort " + sort, x.judge(1, -1), sort == 1 ? 100 : -12);
        }
        x.tape(0, 1, 6);
        d.due("24 the first is otherwise", x.judge(0, 0), 0);
        for (int q = 0; q < 4; q++) {
            x.item(0, q + 1, 100 * q + 1);
        }
        d.due("24 none is otherwise", x.judge(0, 1), -5);
        x.item(0, 3, 5);
        d.due("24 the third is otherwise", x.judge(0, 1), 2);
        x.item(0, 4, 1);
        x.item(0, 5, 101);
        d.due("24 two looked at", x.judge(0, 4), 102);
        d.due("24 otherwise ahead of the end", x.judge(0, 5), 0);
        x.item(0, 5, 1);
        d.due("24 one looked at", x.judge(0, 5), 101);
        d.due("24 at the end", x.judge(0, 6), 100);
        d.due("24 beyond the end", x.judge(0, 7), 100);
        d.due("24 far beyond", x.judge(0, MAX), 100);
        d.due("24 far below", x.judge(0, MIN), 100);
        d.due("24 below 0", x.judge(0, -1), 100);
        x.tape(0, 1, 0);
        d.due("24 a row of none", x.judge(0, 0), 100);
        x.tape(5, 1, 1);
        d.due("24 the last tape", x.judge(5, 0), 0);
    }

    private static void promise25Image() {
        FireApologies x = new FireApologies();
        d.due("25 of nothing", x.image(), 0);
        x.rocket(0, 0, 0, 0);
        x.rocket(0, 0, 0, 0);
        d.due("25 of two", x.image(), 2);
        x.rocket(0, 0, 0, 0);
        d.due("25 the newest is kept", x.undo(), 2);
    }

    private static void promise26Undo() {
        FireApologies x = new FireApologies();
        d.due("26 none", x.undo(), -3);
        x.rocket(6, 4, 10, 1);
        x.row(0, 1, 3);
        x.grieve(1, 44);
        x.rain(2, 6);
        x.pass(1);
        x.set(0, 1, 12);
        x.mark(0, 1, 7);
        x.plan(1, 0);
        x.book(0, 12);
        Due.show(x, "dry 7");
        x.tape(0, 2, 2);
        x.image();
        x.rocket(6, 0, 0, 0);
        x.row(1, 2, 9);
        x.set(1, 1, 77);
        x.light(1);
        x.set(0, 0, 3);
        x.set(0, 2, 2);
        x.row(0, 1, 8);
        x.grieve(1, 5);
        x.grieve(3, 5);
        x.rain(2, 0);
        x.pass(20);
        x.light(0);
        x.mark(-1, 0, 0);
        x.mark(1, 2, 9);
        x.mark(1, 2, 9);
        x.plan(-1, 0);
        x.plan(0, 0);
        x.plan(0, 0);
        x.book(0, 9);
        Due.show(x, "dry 8");
        Due.feed(x, "dr");
        x.item(0, 0, 5);
        x.act(0, 0, 5);
        for (int again = 0; again < 2; again++) {
            d.due("26 rockets", x.undo(), 1);
            int[] of = {6, 4, 10, 1, 12, 0, 22};
            for (int what = 0; what < of.length; what++) {
                d.due("26 of(0, " + what + ")", x.of(0, what), of[what]);
            }
            d.due("26 count", x.count(0), 1);
            d.due("26 minute", x.told(0), 1);
            d.due("26 grief", x.told(21) * 1000 + x.told(3), 44044);
            d.due("26 rain", x.told(12), 6);
            d.due("26 the show that held holds", x.told(1), 7);
            d.due("26 marked", x.count(2), 1);
            d.due("26 what is marked", x.wrong(), 0);
            d.due("26 plan", x.count(3) * 10 + x.ends(1), 11);
            d.due("26 book", x.count(4), 1);
            d.due("26 what is in the book", x.looked(), -5);
            x.pass(3);
            x.rain(2, 1);
        }
        d.due("26 shows stay", x.count(1), 2);
        d.due("26 the text stays", x.count(5), 2);
        d.due("26 tapes stay", x.read(0, 0), 5);
        d.due("26 the trace stays", x.count(6), 2);
        d.due("26 a new one is new", x.rocket(6, 0, 0, 0), 1);
        d.due("26 its damp", x.of(1, 4), 0);
        d.due("26 its state", x.of(1, 5), 0);
        d.due("26 its row", x.row(1, 2, 0), 0);
        d.due("26 the next show", Due.show(x, "y 3"), 2);
        d.due("26 it holds", x.told(1), 3);
        promise26UndoOfRows();
        FireApologies y = new FireApologies();
        y.image();
        y.rocket(0, 0, 0, 0);
        Due.show(y, "dry 9");
        d.due("26 of an object that is new", y.undo(), 0);
        d.due("26 no show holds", y.told(1), 2);
        d.due("26 no such rocket", y.of(0, 0), -10001);
    }

    private static void promise26UndoOfRows() {
        FireApologies x = new FireApologies();
        x.rocket(0, 0, 5, 0);
        x.rocket(0, 0, 7, 1);
        x.grieve(0, 100);
        x.grieve(1, 100);
        x.set(1, 1, 20);
        x.mark(1, 1, 13);
        x.mark(0, 0, 10);
        x.plan(1, 1);
        x.plan(3, 1);
        x.plan(2, 1);
        x.plan(1, 1);
        x.book(1, 20);
        x.book(0, 0);
        x.image();
        x.mark(-1, 0, 0);
        x.mark(0, 5, 10);
        x.mark(1, 1, 11);
        x.plan(-1, 0);
        x.plan(3, 0);
        x.plan(1, 0);
        x.plan(0, 0);
        x.plan(0, 0);
        x.book(-1, 0);
        x.book(0, 7);
        x.book(1, 3);
        x.undo();
        d.due("26 marked rows are so", x.wrong(), -5);
        d.due("26 sizes by marked rows", x.of(0, 10) + x.of(1, 10), (1 << 5) + (1 << 7));
        x.set(0, 0, 4);
        d.due("26 the second row is of 0", x.wrong(), 1);
        x.undo();
        x.set(1, 1, 0);
        d.due("26 the first row is of 1", x.wrong(), 0);
        x.undo();
        d.due("26 rows of the plan", x.ends(0), 200 - 12 - 14);
        d.due("26 rows of the plan, seen", x.ends(1), 2);
        d.due("26 rows of the book", x.looked(), -5);
        x.set(0, 1, 7);
        d.due("26 the second row of the book is of 0", x.looked(), 1);
    }

    /** What an act answers, and the bodies that ran, as they began. */
    private static void act(FireApologies x, int rocket, int act, int n, int want, int... bodies) {
        String call = "27 act(" + rocket + ", " + act + ", " + n + ")";
        d.due(call, x.act(rocket, act, n), want);
        d.due(call + " bodies", x.count(6), bodies.length);
        for (int k = 0; k < bodies.length; k++) {
            d.due(call + " trace(" + k + ")", x.trace(k), bodies[k]);
        }
        d.due(call + " trace(" + bodies.length + ")", x.trace(bodies.length), -1);
    }

    private static void promise27Act() {
        FireApologies x = new FireApologies();
        x.rocket(4, 3, 0, 0);
        x.rocket(0, 3, 0, 0);
        x.rocket(1, 3, 0, 0);
        x.rocket(2, 3, 0, 0);
        x.rocket(3, 3, 0, 0);
        x.rocket(5, 3, 0, 0);
        act(x, 1, 0, 5, 6, 10);
        act(x, 1, 1, 5, 3, 11, 10);
        act(x, 1, 2, 5, 6, 12, 11, 10);
        act(x, 2, 0, 5, 7, 10);
        act(x, 2, 1, 5, 4 ^ 6, 20, 11, 10);
        act(x, 2, 2, 5, 4, 12, 20, 11, 10);
        act(x, 3, 0, 5, 18, 30, 10);
        act(x, 3, 1, 5, 15, 11, 30, 10);
        act(x, 3, 2, 5, 30, 12, 11, 30, 10);
        act(x, 4, 0, 5, 9, 10);
        act(x, 4, 1, 5, 6, 11, 10);
        act(x, 4, 2, 5, 12 + 2, 40, 12, 11, 10, 11, 10);
        act(x, 0, 0, 5, -5, 50, 10);
        act(x, 0, 1, 5, -9 ^ 6, 51, 20, 11, 50, 10);
        act(x, 0, 2, 5, 2 * (-9 ^ 6), 12, 51, 20, 11, 50, 10);
        act(x, 5, 0, 5, 20, 30, 10);
        act(x, 5, 1, 5, 17, 11, 30, 10);
        act(x, 5, 2, 9, 2 * (12 + 5 - 3), 60, 12, 11, 30, 10);
        act(x, 3, 0, MAX, MAX * 3 + 3, 30, 10);
        act(x, 1, 2, MAX, 2 * (MIN - 3), 12, 11, 10);
        act(x, 0, 0, MIN, MIN, 50, 10);
        act(x, 6, 0, 5, 0);
        act(x, 1, 0, 5, 6, 10);
        act(x, -1, 0, 5, 0);
        act(x, 1, 0, 5, 6, 10);
        act(x, 1, 3, 5, 0);
        act(x, 1, 0, 5, 6, 10);
        act(x, 1, -1, 5, 0);
        FireApologies y = new FireApologies();
        y.rocket(0, 0, 0, 0);
        y.rocket(0, 0, 0, 0);
        y.rocket(6, 5, 0, 0);
        act(y, 2, 0, 7, 9 ^ 5, 71, 10);
        act(y, 2, 1, 7, (9 ^ 5) - 5 + 4, 70, 11, 71, 10, 10);
        act(y, 2, 2, 7, 2 * ((9 ^ 5) - 1) + (3 ^ 5) - 1,
            40, 12, 70, 11, 71, 10, 10, 70, 11, 71, 10, 10);
    }

    private static void promise28Trace() {
        FireApologies x = new FireApologies();
        x.rocket(1, 0, 0, 0);
        d.due("28 no act", x.trace(0), -1);
        x.act(0, 2, 0);
        d.due("28 first", x.trace(0), 12);
        d.due("28 last", x.trace(3), 10);
        d.due("28 beyond", x.trace(4), -1);
        d.due("28 below", x.trace(-1), -1);
        d.due("28 far", x.trace(MAX), -1);
        d.due("28 far below", x.trace(MIN), -1);
        x.act(0, 0, 0);
        d.due("28 the latest act's", x.trace(0), 10);
        d.due("28 no more of the one ahead", x.trace(1), -1);
        x.act(9, 0, 0);
        d.due("28 none then", x.trace(0), -1);
    }

    private static void promise29Taken() {
        FireApologies x = new FireApologies();
        d.due("29 nothing", x.taken(0, 0), -11);
        d.due("29 bad ahead of nothing", x.taken(0, 7), -2);
        int[] kinds = {6, 5, 4, 3, 2, 1};
        String[] taken = {"1001001", "1010010", "1100100", "1001000", "1010000", "1100000"};
        for (int p = 0; p < 6; p++) {
            x.rocket(kinds[p], 0, 0, 0);
            for (int k = 0; k < 7; k++) {
                d.due("29 kind " + kinds[p] + " for " + k, x.taken(p, k), taken[p].charAt(k) == '1' ? kinds[p] : -12);
            }
        }
        d.due("29 bad 7", x.taken(0, 7), -2);
        d.due("29 bad -1", x.taken(0, -1), -2);
        d.due("29 nothing 6", x.taken(6, 0), -11);
        d.due("29 nothing -1", x.taken(-1, 0), -11);
        FireApologies y = new FireApologies();
        y.rocket(0, 0, 0, 0);
        d.due("29 a rocket is one", y.taken(0, 0), 0);
        for (int k = 1; k < 7; k++) {
            d.due("29 and no other", y.taken(0, k), -12);
        }
    }

    private static void promise30Count() {
        FireApologies x = new FireApologies();
        x.rocket(0, 0, 0, 0);
        Due.show(x, "dry 1");
        Due.show(x, "dry 1");
        for (int k = 0; k < 3; k++) {
            x.mark(0, 0, 0);
        }
        for (int k = 0; k < 4; k++) {
            x.plan(0, 0);
        }
        for (int k = 0; k < 5; k++) {
            x.book(0, 0);
        }
        Due.feed(x, "dry 12");
        x.act(0, 1, 0);
        int[] want = {1, 2, 3, 4, 5, 6, 2};
        for (int what = 0; what < want.length; what++) {
            d.due("30 count(" + what + ")", x.count(what), want[what]);
        }
        d.due("30 bad 7", x.count(7), -2);
        d.due("30 bad -1", x.count(-1), -2);
        d.due("30 bad MIN", x.count(MIN), -2);
    }

    private static void promise31Tape() {
        FireApologies x = new FireApologies();
        d.due("31 no tape -1", x.tape(-1, 0, 0), -1);
        d.due("31 no tape 6", x.tape(6, 0, 0), -1);
        d.due("31 none ahead of bad", x.tape(6, 9, 0), -1);
        d.due("31 bad sort 5", x.tape(0, 5, 0), -2);
        d.due("31 bad sort -2", x.tape(0, -2, 0), -2);
        d.due("31 bad sort ahead of size", x.tape(0, 5, -1), -2);
        d.due("31 bad n 61", x.tape(0, 0, 61), -2);
        d.due("31 bad n MAX", x.tape(0, 0, MAX), -2);
        d.due("31 size -1", x.tape(0, 0, -1), -14);
        d.due("31 size MIN", x.tape(0, 4, MIN), -14);
        d.due("31 nothing yet", x.item(0, 0, 0), -11);
        d.due("31 sixty", x.tape(0, 0, 60), 1);
        d.due("31 first", x.read(0, 0), 0);
        d.due("31 last", x.read(0, 59), 0);
        d.due("31 beyond", x.read(0, 60), NO);
        x.item(0, 59, 7);
        d.due("31 refused", x.tape(0, 0, 61), -2);
        d.due("31 stays", x.read(0, 59), 7);
        d.due("31 anew", x.tape(0, 3, 60), 1);
        d.due("31 all 0", x.read(0, 59), 0);
        d.due("31 a row of none", x.tape(5, 4, 0), 1);
        d.due("31 has no place", x.item(5, 0, 0), -13);
        d.due("31 nothing, n does not matter", x.tape(0, -1, 99), 1);
        d.due("31 nor below 0", x.tape(0, -1, -99), 1);
        d.due("31 holds nothing", x.item(0, 0, 0), -11);
    }

    private static void promise32Item() {
        FireApologies x = new FireApologies();
        for (int sort = 0; sort < 5; sort++) {
            x.tape(sort, sort, 2);
        }
        long[] v = {0x1234567890ABCDEFL, -1, 128, 32768, 1L << 31, 256, 65536, 1L << 32, 0, Long.MIN_VALUE};
        long[][] want = {
            {(byte) 0xEF, -1, -128, 0, 0, 0, 0, 0, 0, 0},
            {(short) 0xCDEF, -1, 128, -32768, 0, 256, 0, 0, 0, 0},
            {0x90ABCDEF, -1, 128, 32768, MIN, 256, 65536, 0, 0, 0},
            v,
            {1, 1, 1, 1, 1, 1, 1, 1, 0, 1}};
        for (int sort = 0; sort < 5; sort++) {
            for (int k = 0; k < v.length; k++) {
                d.due("32 item(" + sort + ", 1, " + v[k] + ")", x.item(sort, 1, v[k]), 1);
                d.due("32 read of sort " + sort + ", " + v[k], x.read(sort, 1), want[sort][k]);
                d.due("32 the other item", x.read(sort, 0), 0);
            }
        }
        d.due("32 no tape -1", x.item(-1, 0, 0), -1);
        d.due("32 no tape 6", x.item(6, 0, 0), -1);
        d.due("32 nothing", x.item(5, -1, 0), -11);
        d.due("32 place -1", x.item(0, -1, 0), -13);
        d.due("32 place 2", x.item(0, 2, 0), -13);
        d.due("32 place MAX", x.item(0, MAX, 0), -13);
    }

    private static void promise33Read() {
        FireApologies x = new FireApologies();
        x.tape(2, 2, 3);
        x.item(2, 0, 5);
        x.item(2, 2, -6);
        d.due("33 first", x.read(2, 0), 5);
        d.due("33 next", x.read(2, 1), 0);
        d.due("33 last", x.read(2, 2), -6);
        d.due("33 place 3", x.read(2, 3), NO);
        x.tape(5, 0, 1);
        d.due("33 the last tape", x.read(5, 0), 0);
        d.due("33 place -1", x.read(2, -1), NO);
        d.due("33 place MIN", x.read(2, MIN), NO);
        d.due("33 nothing", x.read(1, 0), NO);
        d.due("33 no tape -1", x.read(-1, 0), NO);
        d.due("33 no tape 6", x.read(6, 0), NO);
        x.tape(2, -1, 0);
        d.due("33 nothing any more", x.read(2, 0), NO);
    }

    private static String items(FireApologies x, int tape, int n) {
        StringBuilder all = new StringBuilder();
        for (int i = 0; i < n; i++) {
            all.append(x.read(tape, i));
        }
        return all.toString();
    }

    private static void promise34Shift() {
        FireApologies x = new FireApologies();
        x.tape(0, 1, 6);
        x.tape(1, 1, 3);
        x.tape(2, 2, 6);
        for (int i = 0; i < 6; i++) {
            x.item(0, i, i + 1);
        }
        d.due("34 on, the same", x.shift(0, 0, 0, 2, 4), 4);
        d.due("34 as they were before", Long.parseLong(items(x, 0, 6)), 121234);
        d.due("34 back, the same", x.shift(0, 2, 0, 1, 4), 4);
        d.due("34 as they were before, too", Long.parseLong(items(x, 0, 6)), 112344);
        d.due("34 to another", x.shift(0, 3, 1, 0, 3), 3);
        d.due("34 it has them", Long.parseLong(items(x, 1, 3)), 344);
        d.due("34 none", x.shift(0, 0, 1, 0, 0), 0);
        d.due("34 none at the ends", x.shift(0, 6, 1, 3, 0), 0);
        d.due("34 none beyond the end", x.shift(0, 7, 1, 0, 0), -13);
        d.due("34 none beyond the other's end", x.shift(0, 0, 1, 4, 0), -13);
        d.due("34 beyond the end", x.shift(0, 4, 1, 0, 3), -13);
        d.due("34 beyond the other's end", x.shift(0, 0, 1, 1, 3), -13);
        d.due("34 n below 0", x.shift(0, 1, 1, 1, -1), -13);
        d.due("34 i below 0", x.shift(0, -1, 1, 0, 1), -13);
        d.due("34 j below 0", x.shift(0, 0, 1, -1, 1), -13);
        d.due("34 far", x.shift(0, MAX, 1, MAX, MAX), -13);
        d.due("34 far i", x.shift(0, MAX, 1, 0, 1), -13);
        d.due("34 far j", x.shift(0, 0, 1, MAX, 1), -13);
        d.due("34 far n", x.shift(0, 1, 1, 1, MAX), -13);
        d.due("34 cast", x.shift(0, 0, 2, 0, 1), -12);
        d.due("34 cast ahead of place", x.shift(0, -1, 2, 0, 1), -12);
        d.due("34 nothing there", x.shift(0, 0, 3, 0, 1), -11);
        d.due("34 nothing here", x.shift(3, 0, 0, 0, 1), -11);
        d.due("34 no tape -1", x.shift(-1, 0, 0, 0, 1), -1);
        d.due("34 no tape 6", x.shift(6, 0, 0, 0, 1), -1);
        d.due("34 no other -1", x.shift(0, 0, -1, 0, 1), -1);
        d.due("34 no other 6", x.shift(3, 0, 6, 0, 1), -1);
        d.due("34 refused, so all stays", Long.parseLong(items(x, 0, 6)), 112344);
        x.tape(3, 4, 2);
        x.tape(4, 4, 2);
        x.item(3, 1, 9);
        d.due("34 booleans", x.shift(3, 1, 4, 0, 1), 1);
        d.due("34 booleans come", Long.parseLong(items(x, 4, 2)), 10);
        x.tape(5, 4, 1);
        d.due("34 to the last tape", x.shift(4, 0, 5, 0, 1), 1);
        d.due("34 from the last tape", x.shift(5, 0, 4, 1, 1), 1);
        d.due("34 booleans come back", Long.parseLong(items(x, 4, 2)), 11);
    }
}
