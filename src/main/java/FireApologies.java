import java.util.Arrays;

/** Fireworks that are apologies: who lights what when, and whose grief is less by it. */
public final class FireApologies {
    public static final int NONE = -1, BAD = -2, STATE = -3, FULL = -4;
    public static final long NO = Long.MIN_VALUE;

    /** Stands for NONE where an answer may be below 0. */
    private static final int NONE_BELOW = -10001;
    private static final int NOT_FOUND = -5;
    private static final int NOTHING = -11, CAST = -12, PLACE = -13, SIZE_REFUSED = -14;

    private static final int PEOPLE = 4;
    private static final int RAINS = 4;
    private static final int ROCKETS = 6;
    private static final int KINDS = 7;
    private static final int MOST_V = 9;
    private static final int MOST_SIZE = 20;
    private static final int MOST_DAMP = 99;
    private static final int MOST_GRIEF = 999;
    private static final int MOST_RAIN = 9;
    private static final int MOST_MINUTE = 9999;
    private static final int MOST_MINUTES = 60;
    private static final int MOST_BRIGHTEST = 20;

    /** The cells of a rocket; the first six are in the order in which of() asks for them. */
    private static final int KIND = 0, V = 1, SIZE = 2, WHOM = 3, DAMP = 4, STAGE = 5, ROW = 6;
    private static final int CELLS = ROW + RAINS;
    private static final int UNLIT = 0, FIZZED = 1, SEEN = 2;

    private static final int TOLD_KIND = 6;
    /** Which kind stands above each. */
    private static final int[] ABOVE = {-1, 0, 0, 0, 1, 2, 3};

    private static final int MOST_MARKED = 5;
    private static final int MOST_MARKED_MINUTES = 12;
    private static final int MOST_MARKED_LIGHT = 999;
    private static final int MOST_PLANNED = 10;
    private static final int MOST_BOOKED = 8;
    private static final int PLAN_MINUTE = 0, PLAN_LIGHT = 1, PLAN_DRY = 2, PLAN_UNLIT = 3;

    private static final int MOST_SHOWS = 6;
    private static final int MOST_TEXT = 100;
    private static final int MOST_CLAUSES = 10;
    private static final int MOST_WITHIN = 4;
    private static final int MOST_SIGN = 127;
    private static final int DRY_WITHOUT = 2;
    /** What a show does step by step: each step is one of these and two numbers. */
    private static final int LESS = 0, EQUAL = 1, MORE = 2, NOT = 3, AND = 4, OR = 5, BRIGHT = 6, DIM = 7;
    private static final int STEP = 3;

    private static final int MOST_TRACE = 20;

    private static final int TAPES = 6;
    private static final int MOST_ITEMS = 60;
    private static final int NO_SORT = -1, BYTES = 0, SHORTS = 1, INTS = 2, LONGS = 3, BOOLEANS = 4;
    private static final int JUDGED_SHORT = 100;

    private static final int LONGEST_ROW = 3;
    /** Weighs one more who is even above any grief of all. */
    private static final int EVEN_WEIGHT = 10000;

    private final World now = new World();
    private final World saved = new World();
    /** Where what is asked is tried, so that nothing changes by it. */
    private final World trial = new World();
    private final Reader reader = new Reader();
    private final Acting acting = new Acting();
    private final int[] order = new int[LONGEST_ROW];
    private final int[] tapeSorts = new int[TAPES];
    private final int[] tapeLengths = new int[TAPES];
    private final long[][] tapeItems = new long[TAPES][MOST_ITEMS];
    private boolean hasImage;
    private int shows;

    public FireApologies() {
        for (int tape = 0; tape < TAPES; tape++) {
            tapeSorts[tape] = NO_SORT;
        }
    }

    // ---- rockets, people, shows

    public int rocket(int kind, int v, int size, int person) {
        if (!within(kind, KINDS - 1) || !within(person, PEOPLE - 1)) {
            return NONE;
        }
        if (!within(v, MOST_V) || !within(size, MOST_SIZE)) {
            return BAD;
        }
        if (now.rocketCount >= ROCKETS) {
            return FULL;
        }
        return now.addRocket(kind, v, size, person);
    }

    public int of(int rocket, int what) {
        if (!now.has(rocket) || !within(what, 10)) {
            return NONE_BELOW;
        }
        switch (what) {
            case 6:
                return now.brightness(rocket);
            case 7:
                return brightestMinutes(rocket);
            case 8:
                return lightOn(brightestMinutes(rocket), rocket);
            case 9:
                return giftTo(rocket);
            case 10:
                return fitting(rocket, SIZE, MOST_SIZE);
            default:
                return now.rockets[rocket][what];
        }
    }

    public int set(int rocket, int what, int n) {
        if (!now.has(rocket) || !within(what, 2)) {
            return NONE;
        }
        int cell = what == 0 ? SIZE : what == 1 ? DAMP : WHOM;
        int most = what == 0 ? MOST_SIZE : what == 1 ? MOST_DAMP : PEOPLE - 1;
        if (!within(n, most)) {
            return BAD;
        }
        return swap(now.rockets[rocket], cell, n);
    }

    public int light(int rocket) {
        if (!now.has(rocket)) {
            return NONE;
        }
        if (!now.isUnlit(rocket)) {
            return STATE;
        }
        return now.ignite(rocket);
    }

    public int grieve(int person, int n) {
        if (!within(person, PEOPLE - 1)) {
            return NONE;
        }
        if (!within(n, MOST_GRIEF)) {
            return BAD;
        }
        return swap(now.griefs, person, n);
    }

    public int rain(int k, int n) {
        if (!within(k, RAINS - 1)) {
            return NONE;
        }
        if (!within(n, MOST_RAIN)) {
            return BAD;
        }
        return swap(now.rains, k, n);
    }

    public int row(int rocket, int part, int n) {
        if (!now.has(rocket) || !within(part, RAINS - 1)) {
            return NONE;
        }
        if (!within(n, MOST_RAIN)) {
            return BAD;
        }
        if (now.rockets[rocket][KIND] != TOLD_KIND) {
            return STATE;
        }
        return swap(now.rockets[rocket], ROW + part, n);
    }

    public int feed(int sign) {
        if (!within(sign, MOST_SIGN)) {
            return BAD;
        }
        if (reader.length >= MOST_TEXT) {
            return FULL;
        }
        reader.text[reader.length] = (byte) sign;
        reader.length++;
        return reader.length;
    }

    public int show() {
        if (shows >= MOST_SHOWS) {
            return FULL;
        }
        int fault = reader.findFault();
        reader.length = 0;
        if (fault >= 0) {
            return -10 - fault;
        }
        now.held = reader.makeShow();
        shows++;
        return shows - 1;
    }

    public int told(int what) {
        int group = Math.floorDiv(what, 10);
        int k = Math.floorMod(what, 10);
        switch (group) {
            case 0:
                return toldOfAll(k);
            case 1:
                return k < RAINS ? now.rains[k] : NONE;
            case 2:
                return k < PEOPLE ? now.griefs[k] : NONE;
            case 3:
                return k < PEOPLE ? enoughFor(k) : NONE;
            default:
                return NONE;
        }
    }

    private int toldOfAll(int what) {
        switch (what) {
            case 0:
                return now.minute;
            case 1:
                return now.dryness();
            case 2:
                return now.evenPeople();
            case 3:
                return now.griefOfAll();
            case 4:
                return now.rocketsIn(UNLIT);
            case 5:
                return now.rocketsIn(SEEN);
            default:
                return NONE;
        }
    }

    // ---- minutes, rows

    public int pass(int n) {
        if (!within(n, MOST_MINUTES)) {
            return BAD;
        }
        if (now.minute + n > MOST_MINUTE) {
            return STATE;
        }
        now.minutesGo(n);
        return now.minute;
    }

    public int on(int n, int what) {
        boolean asksDamp = what >= 10 && what < 20;
        int rocket = asksDamp ? what - 10 : what < 20 ? NONE : what - 20;
        if (!now.has(rocket)) {
            return NONE_BELOW;
        }
        if (!within(n, MOST_MINUTES)) {
            return BAD;
        }
        if (!asksDamp) {
            return lightOn(n, rocket);
        }
        trial.goOnFrom(now);
        trial.minutesGo(n);
        return trial.rockets[rocket][DAMP];
    }

    public int best(int n, int k) {
        if (k < -2 || k >= LONGEST_ROW) {
            return NONE;
        }
        if (n < 1 || n > LONGEST_ROW) {
            return BAD;
        }
        int code = bestRow(n);
        if (code < 0 || k >= n) {
            return NOT_FOUND;
        }
        orderOf(code, n);
        if (k >= 0) {
            return order[k];
        }
        tryOrder(n);
        return k == -2 ? Integer.bitCount(trial.evenPeople()) : trial.griefOfAll();
    }

    private int lightOn(int n, int rocket) {
        trial.goOnFrom(now);
        trial.minutesGo(n);
        return trial.brightness(rocket);
    }

    private int brightestMinutes(int rocket) {
        trial.goOnFrom(now);
        int brightest = trial.brightness(rocket);
        int fewest = 0;
        for (int n = 1; n <= MOST_BRIGHTEST; n++) {
            trial.minutesGo(1);
            int bright = trial.brightness(rocket);
            if (bright > brightest) {
                brightest = bright;
                fewest = n;
            }
        }
        return fewest;
    }

    /** The best row, its numbers read as digits to base ROCKETS: so the first row is the least code. */
    private int bestRow(int n) {
        int codes = 1;
        for (int k = 0; k < n; k++) {
            codes *= ROCKETS;
        }
        int found = NOT_FOUND;
        int most = Integer.MIN_VALUE;
        for (int code = 0; code < codes; code++) {
            orderOf(code, n);
            if (canLightOrder(n)) {
                tryOrder(n);
                int score = trial.score();
                if (score > most) {
                    most = score;
                    found = code;
                }
            }
        }
        return found;
    }

    private void orderOf(int code, int n) {
        int rest = code;
        for (int k = n - 1; k >= 0; k--) {
            order[k] = rest % ROCKETS;
            rest /= ROCKETS;
        }
    }

    private boolean canLightOrder(int n) {
        int free = now.rocketsIn(UNLIT);
        for (int k = 0; k < n; k++) {
            int bit = 1 << order[k];
            if ((free & bit) == 0) {
                return false;
            }
            free ^= bit;
        }
        return true;
    }

    private void tryOrder(int n) {
        trial.goOnFrom(now);
        for (int k = 0; k < n; k++) {
            trial.ignite(order[k]);
            trial.minutesGo(1);
        }
    }

    private int enoughFor(int person) {
        int unlit = now.rocketsIn(UNLIT);
        int found = NOT_FOUND;
        int fewest = ROCKETS + 1;
        for (int some = 0; some < 1 << ROCKETS; some++) {
            int size = Integer.bitCount(some);
            if ((some & ~unlit) == 0 && size < fewest) {
                trial.goOnFrom(now);
                trial.igniteAll(some);
                if (trial.griefs[person] == 0) {
                    found = some;
                    fewest = size;
                }
            }
        }
        return found;
    }

    private int giftTo(int rocket) {
        int found = 0;
        int most = Integer.MIN_VALUE;
        for (int person = 0; person < PEOPLE; person++) {
            trial.goOnFrom(now);
            trial.rockets[rocket][WHOM] = person;
            trial.igniteAll(now.rocketsIn(UNLIT));
            int score = trial.score();
            if (score > most) {
                most = score;
                found = person;
            }
        }
        return found;
    }

    // ---- marked, odds

    public int mark(int rocket, int n, int light) {
        if (rocket == -1) {
            now.markedCount = 0;
            return 0;
        }
        if (!now.has(rocket)) {
            return NONE;
        }
        if (!within(n, MOST_MARKED_MINUTES) || !within(light, MOST_MARKED_LIGHT)) {
            return BAD;
        }
        if (now.markedCount >= MOST_MARKED) {
            return FULL;
        }
        now.markedRockets[now.markedCount] = rocket;
        now.markedMinutes[now.markedCount] = n;
        now.markedLights[now.markedCount] = light;
        now.markedCount++;
        return now.markedCount;
    }

    public int wrong() {
        for (int k = 0; k < now.markedCount; k++) {
            if (!isMarkSo(k, SIZE, now.rockets[now.markedRockets[k]][SIZE])) {
                return k;
            }
        }
        return NOT_FOUND;
    }

    public int can(int rocket, int what) {
        if (!now.has(rocket) || !within(what, 1)) {
            return NONE;
        }
        int values = fitting(rocket, V, MOST_V);
        if (what == 0) {
            return Integer.bitCount(values);
        }
        return values == 0 ? NOT_FOUND : Integer.numberOfTrailingZeros(values);
    }

    public long odds(int rocket, int part) {
        if (!now.has(rocket) || !within(part, 1)) {
            return NO;
        }
        int bright = 0;
        for (int rain = 0; rain <= MOST_RAIN; rain++) {
            trial.goOnFrom(now);
            trial.rains[now.minute % RAINS] = rain;
            trial.minutesGo(1);
            if (trial.brightness(rocket) > 0) {
                bright++;
            }
        }
        return inLowestTerms(bright, MOST_RAIN + 1, part);
    }

    public long mean(int part) {
        int grieving = PEOPLE - Integer.bitCount(now.evenPeople());
        if (!within(part, 1) || grieving == 0) {
            return NO;
        }
        return inLowestTerms(now.griefOfAll(), grieving, part);
    }

    /** The values 0 .. most of a cell of a rocket, as bits, by which all that is marked of it is so. */
    private int fitting(int rocket, int cell, int most) {
        int values = 0;
        for (int value = 0; value <= most; value++) {
            if (areMarksSo(rocket, cell, value)) {
                values |= 1 << value;
            }
        }
        return values;
    }

    private boolean areMarksSo(int rocket, int cell, int value) {
        for (int k = 0; k < now.markedCount; k++) {
            if (now.markedRockets[k] == rocket && !isMarkSo(k, cell, value)) {
                return false;
            }
        }
        return true;
    }

    private boolean isMarkSo(int k, int cell, int value) {
        int rocket = now.markedRockets[k];
        trial.goOnFrom(now);
        trial.rockets[rocket][cell] = value;
        trial.minutesGo(now.markedMinutes[k]);
        return Math.max(0, trial.brightness(rocket)) == now.markedLights[k];
    }

    private static long inLowestTerms(int above, int below, int part) {
        int divisor = below;
        int rest = above;
        for (int steps = 0; steps < 64 && rest != 0; steps++) {
            int next = divisor % rest;
            divisor = rest;
            rest = next;
        }
        if (divisor == 0) {
            return NO;
        }
        return part == 0 ? above / divisor : below / divisor;
    }

    // ---- plans, books

    public int plan(int what, int rocket) {
        if (what == -1) {
            now.plannedCount = 0;
            return 0;
        }
        if (!within(what, PLAN_UNLIT) || what != PLAN_MINUTE && !now.has(rocket)) {
            return NONE;
        }
        if (now.plannedCount >= MOST_PLANNED) {
            return FULL;
        }
        now.plannedActs[now.plannedCount] = what;
        now.plannedRockets[now.plannedCount] = what == PLAN_MINUTE ? 0 : rocket;
        now.plannedCount++;
        return now.plannedCount;
    }

    public int ends(int what) {
        if (!within(what, 1)) {
            return NONE;
        }
        trial.goOnFrom(now);
        for (int k = 0; k < now.plannedCount; k++) {
            tryPlanned(now.plannedActs[k], now.plannedRockets[k]);
        }
        return what == 0 ? trial.griefOfAll() : trial.rocketsIn(SEEN);
    }

    private void tryPlanned(int what, int rocket) {
        if (what == PLAN_MINUTE) {
            trial.minutesGo(1);
        } else if (what == PLAN_DRY) {
            trial.rockets[rocket][DAMP] = 0;
        } else if (what == PLAN_UNLIT) {
            trial.rockets[rocket][STAGE] = UNLIT;
        } else if (what == PLAN_LIGHT && trial.isUnlit(rocket)) {
            trial.ignite(rocket);
        }
    }

    public int book(int rocket, int damp) {
        if (rocket == -1) {
            now.bookedCount = 0;
            return 0;
        }
        if (!now.has(rocket)) {
            return NONE;
        }
        if (!within(damp, MOST_DAMP)) {
            return BAD;
        }
        if (now.bookedCount >= MOST_BOOKED) {
            return FULL;
        }
        now.bookedRockets[now.bookedCount] = rocket;
        now.bookedDamps[now.bookedCount] = damp;
        now.bookedCount++;
        return now.bookedCount;
    }

    public int looked() {
        for (int k = 0; k < now.bookedCount; k++) {
            if (now.rockets[now.bookedRockets[k]][DAMP] != now.bookedDamps[k]) {
                return k;
            }
        }
        return NOT_FOUND;
    }

    // ---- judging, the image, acts, tapes

    public int judge(int tape, int i) {
        if (!within(tape, TAPES - 1)) {
            return NONE;
        }
        int sort = tapeSorts[tape];
        if (sort != SHORTS && sort != NO_SORT) {
            return CAST;
        }
        for (int person = 0; person < PEOPLE; person++) {
            if (!hasItem(tape, i + person)) {
                return JUDGED_SHORT + person;
            }
            if (tapeItems[tape][i + person] != now.griefs[person]) {
                return person;
            }
        }
        return NOT_FOUND;
    }

    public int image() {
        saved.goOnFrom(now);
        saved.copyRowsOf(now);
        hasImage = true;
        return now.rocketCount;
    }

    public int undo() {
        if (!hasImage) {
            return STATE;
        }
        now.goOnFrom(saved);
        now.copyRowsOf(saved);
        return now.rocketCount;
    }

    public int act(int rocket, int act, int x) {
        acting.ran = 0;
        if (!now.has(rocket) || !within(act, 2)) {
            return 0;
        }
        acting.number = rocket;
        acting.v = now.rockets[rocket][V];
        Rocket kind = now.kinds[now.rockets[rocket][KIND]];
        if (act == 0) {
            return kind.hisses(acting, x);
        }
        return act == 1 ? kind.climbs(acting, x) : kind.tells(acting, x);
    }

    public int trace(int i) {
        if (!within(i, Math.min(acting.ran, MOST_TRACE) - 1)) {
            return NONE;
        }
        return acting.bodies[i];
    }

    public int taken(int rocket, int k) {
        if (!within(k, KINDS - 1)) {
            return BAD;
        }
        if (!now.has(rocket)) {
            return NOTHING;
        }
        int kind = now.rockets[rocket][KIND];
        int above = kind;
        for (int steps = 0; steps < KINDS && above >= 0; steps++) {
            if (above == k) {
                return kind;
            }
            above = ABOVE[above];
        }
        return CAST;
    }

    public int count(int what) {
        switch (what) {
            case 0:
                return now.rocketCount;
            case 1:
                return shows;
            case 2:
                return now.markedCount;
            case 3:
                return now.plannedCount;
            case 4:
                return now.bookedCount;
            case 5:
                return reader.length;
            case 6:
                return acting.ran;
            default:
                return BAD;
        }
    }

    public int tape(int tape, int sort, int n) {
        if (!within(tape, TAPES - 1)) {
            return NONE;
        }
        if (sort < NO_SORT || sort > BOOLEANS || sort != NO_SORT && n > MOST_ITEMS) {
            return BAD;
        }
        if (sort != NO_SORT && n < 0) {
            return SIZE_REFUSED;
        }
        tapeSorts[tape] = sort;
        tapeLengths[tape] = sort == NO_SORT ? 0 : n;
        Arrays.fill(tapeItems[tape], 0L);
        return 1;
    }

    public int item(int tape, int i, long v) {
        if (!within(tape, TAPES - 1)) {
            return NONE;
        }
        if (tapeSorts[tape] == NO_SORT) {
            return NOTHING;
        }
        if (!hasItem(tape, i)) {
            return PLACE;
        }
        tapeItems[tape][i] = lowestBits(tapeSorts[tape], v);
        return 1;
    }

    public long read(int tape, int i) {
        if (!within(tape, TAPES - 1) || !hasItem(tape, i)) {
            return NO;
        }
        return tapeItems[tape][i];
    }

    public int shift(int tape, int i, int other, int j, int n) {
        if (!within(tape, TAPES - 1) || !within(other, TAPES - 1)) {
            return NONE;
        }
        if (tapeSorts[tape] == NO_SORT || tapeSorts[other] == NO_SORT) {
            return NOTHING;
        }
        if (tapeSorts[tape] != tapeSorts[other]) {
            return CAST;
        }
        if (!hasItems(tape, i, n) || !hasItems(other, j, n)) {
            return PLACE;
        }
        System.arraycopy(tapeItems[tape], i, tapeItems[other], j, n);
        return n;
    }

    private boolean hasItem(int tape, int i) {
        return within(i, tapeLengths[tape] - 1);
    }

    private boolean hasItems(int tape, int i, int n) {
        return i >= 0 && n >= 0 && (long) i + n <= tapeLengths[tape];
    }

    private static long lowestBits(int sort, long v) {
        switch (sort) {
            case BYTES:
                return (byte) v;
            case SHORTS:
                return (short) v;
            case INTS:
                return (int) v;
            case LONGS:
                return v;
            default:
                return v != 0 ? 1 : 0;
        }
    }

    private static boolean within(int n, int most) {
        return n >= 0 && n <= most;
    }

    private static int swap(int[] cells, int i, int n) {
        int was = cells[i];
        cells[i] = n;
        return was;
    }

    /** All that THE IMAGE holds. */
    private static final class World {
        final Rocket[] kinds = {new Rocket(), new Fountain(), new Whistle(), new Frame(), new Cake(), new Wheel(), new Told()};
        final int[][] rockets = new int[ROCKETS][CELLS];
        final int[] griefs = new int[PEOPLE];
        final int[] rains = new int[RAINS];
        final int[] markedRockets = new int[MOST_MARKED];
        final int[] markedMinutes = new int[MOST_MARKED];
        final int[] markedLights = new int[MOST_MARKED];
        final int[] plannedActs = new int[MOST_PLANNED];
        final int[] plannedRockets = new int[MOST_PLANNED];
        final int[] bookedRockets = new int[MOST_BOOKED];
        final int[] bookedDamps = new int[MOST_BOOKED];
        int rocketCount;
        int markedCount;
        int plannedCount;
        int bookedCount;
        int minute;
        /** The show that holds; null without one. */
        Show held;

        /** Becomes as the other, but for what is told by hand: nothing that goes on needs that. */
        void goOnFrom(World other) {
            for (int p = 0; p < other.rocketCount; p++) {
                System.arraycopy(other.rockets[p], 0, rockets[p], 0, CELLS);
            }
            System.arraycopy(other.griefs, 0, griefs, 0, PEOPLE);
            System.arraycopy(other.rains, 0, rains, 0, RAINS);
            rocketCount = other.rocketCount;
            minute = other.minute;
            held = other.held;
        }

        void copyRowsOf(World other) {
            System.arraycopy(other.markedRockets, 0, markedRockets, 0, MOST_MARKED);
            System.arraycopy(other.markedMinutes, 0, markedMinutes, 0, MOST_MARKED);
            System.arraycopy(other.markedLights, 0, markedLights, 0, MOST_MARKED);
            System.arraycopy(other.plannedActs, 0, plannedActs, 0, MOST_PLANNED);
            System.arraycopy(other.plannedRockets, 0, plannedRockets, 0, MOST_PLANNED);
            System.arraycopy(other.bookedRockets, 0, bookedRockets, 0, MOST_BOOKED);
            System.arraycopy(other.bookedDamps, 0, bookedDamps, 0, MOST_BOOKED);
            markedCount = other.markedCount;
            plannedCount = other.plannedCount;
            bookedCount = other.bookedCount;
        }

        int addRocket(int kind, int v, int size, int person) {
            int[] cells = rockets[rocketCount];
            // an undone rocket may have left its damp, its state and its row here
            Arrays.fill(cells, 0);
            cells[KIND] = kind;
            cells[V] = v;
            cells[SIZE] = size;
            cells[WHOM] = person;
            rocketCount++;
            return rocketCount - 1;
        }

        boolean has(int p) {
            return within(p, rocketCount - 1);
        }

        boolean isUnlit(int p) {
            return rockets[p][STAGE] == UNLIT;
        }

        int rainNow() {
            return rains[minute % RAINS];
        }

        int dryness() {
            return held == null ? DRY_WITHOUT : held.dry;
        }

        int brightness(int p) {
            int[] cells = rockets[p];
            int sum = 2 * cells[SIZE] - cells[DAMP] / 10;
            if (held != null) {
                sum += held.brightens(p, cells, minute);
            }
            return kinds[cells[KIND]].brightness(this, cells, sum);
        }

        int ignite(int p) {
            int[] cells = rockets[p];
            int bright = brightness(p);
            if (bright > 0) {
                int person = cells[WHOM];
                griefs[person] = Math.max(0, griefs[person] - bright);
            }
            cells[STAGE] = bright > 0 ? SEEN : FIZZED;
            return cells[STAGE];
        }

        void igniteAll(int some) {
            for (int p = 0; p < rocketCount; p++) {
                if ((some >> p & 1) != 0) {
                    ignite(p);
                }
            }
        }

        void minutesGo(int n) {
            for (int k = 0; k < n; k++) {
                int damper = 3 * rainNow() - dryness();
                for (int p = 0; p < rocketCount; p++) {
                    if (isUnlit(p)) {
                        int damp = rockets[p][DAMP] + damper;
                        rockets[p][DAMP] = Math.max(0, Math.min(MOST_DAMP, damp));
                    }
                }
                minute++;
            }
        }

        int rocketsIn(int stage) {
            int bits = 0;
            for (int p = 0; p < rocketCount; p++) {
                if (rockets[p][STAGE] == stage) {
                    bits |= 1 << p;
                }
            }
            return bits;
        }

        int evenPeople() {
            int bits = 0;
            for (int person = 0; person < PEOPLE; person++) {
                if (griefs[person] == 0) {
                    bits |= 1 << person;
                }
            }
            return bits;
        }

        int griefOfAll() {
            int sum = 0;
            for (int grief : griefs) {
                sum += grief;
            }
            return sum;
        }

        /** More for more people who are even, then for less grief. */
        int score() {
            return EVEN_WEIGHT * Integer.bitCount(evenPeople()) - griefOfAll();
        }
    }

    /** A show, as the steps by which it is reckoned: tests first, then what joins them. */
    private static final class Show {
        final int[] steps;
        final int dry;

        Show(int[] steps, int dry) {
            this.steps = steps;
            this.dry = dry;
        }

        /** What all bright whose E holds give, less what all dim take. */
        int brightens(int number, int[] cells, int minute) {
            int sum = 0;
            // what holds, the newest as the lowest bit: no more than two a level wait at once
            int bits = 0;
            for (int at = 0; at + STEP <= steps.length; at += STEP) {
                int step = steps[at];
                int newest = bits & 1;
                if (step == NOT) {
                    bits ^= 1;
                } else if (step == AND) {
                    bits = bits >> 1 & (newest | ~1);
                } else if (step == OR) {
                    bits = bits >> 1 | newest;
                } else if (step == BRIGHT || step == DIM) {
                    sum += newest * (step == BRIGHT ? steps[at + 1] : -steps[at + 1]);
                    bits >>= 1;
                } else {
                    int left = operand(steps[at + 1], number, cells, minute);
                    bits = bits << 1 | (compares(step, left, steps[at + 2]) ? 1 : 0);
                }
            }
            return sum;
        }

        private static int operand(int letter, int number, int[] cells, int minute) {
            switch (letter) {
                case 'p':
                    return number;
                case 'k':
                    return cells[KIND];
                case 'v':
                    return cells[V];
                case 's':
                    return cells[SIZE];
                case 'w':
                    return cells[DAMP] / 10;
                default:
                    return minute % 10;
            }
        }

        private static boolean compares(int step, int left, int right) {
            if (step == EQUAL) {
                return left == right;
            }
            return step == LESS ? left < right : left > right;
        }
    }

    /** THE TEXT, and how it is read: each reader stops at the first byte that cannot stand there. */
    private static final class Reader {
        final byte[] text = new byte[MOST_TEXT];
        int length;
        private final int[] steps = new int[STEP * MOST_TEXT];
        private int stepsEnd;
        private int place;
        private int number;
        private int dry;

        /** The FAULT, or NONE if THE TEXT is a show. */
        int findFault() {
            place = 0;
            stepsEnd = 0;
            dry = DRY_WITHOUT;
            for (int clauses = 1; clauses <= MOST_CLAUSES; clauses++) {
                if (!takeClause()) {
                    return place;
                }
                if (place == length) {
                    return NONE;
                }
                if (clauses == MOST_CLAUSES || !take(';')) {
                    return place;
                }
            }
            return place;
        }

        /** The show that findFault() has just read. */
        Show makeShow() {
            return new Show(Arrays.copyOf(steps, stepsEnd), dry);
        }

        private boolean takeClause() {
            int step = BRIGHT;
            if (next() == 'b') {
                if (!takeAll("bright ")) {
                    return false;
                }
            } else {
                if (!take('d')) {
                    return false;
                }
                if (next() == 'r') {
                    boolean isDry = takeAll("ry ") && takeNumber();
                    dry = number;
                    return isDry;
                }
                if (!takeAll("im ")) {
                    return false;
                }
                step = DIM;
            }
            if (!takeNumber()) {
                return false;
            }
            int n = number;
            if (!take(' ') || !takeEither(0)) {
                return false;
            }
            addStep(step, n, 0);
            return true;
        }

        /** E: what & joins is joined at once, what | joins when all to its right that & joins is. */
        private boolean takeEither(int depth) {
            if (!takeFactor(depth)) {
                return false;
            }
            boolean orWaits = false;
            for (int signs = 0; signs < MOST_TEXT; signs++) {
                boolean and = next() == '&';
                if (!and && next() != '|') {
                    break;
                }
                place++;
                if (!and && orWaits) {
                    addStep(OR, 0, 0);
                }
                if (!takeFactor(depth)) {
                    return false;
                }
                if (and) {
                    addStep(AND, 0, 0);
                } else {
                    orWaits = true;
                }
            }
            if (orWaits) {
                addStep(OR, 0, 0);
            }
            return true;
        }

        /** F, within depth others that are ( or !. */
        private boolean takeFactor(int depth) {
            if (depth < MOST_WITHIN && next() == '!') {
                place++;
                boolean taken = takeFactor(depth + 1);
                addStep(NOT, 0, 0);
                return taken;
            }
            if (depth < MOST_WITHIN && next() == '(') {
                place++;
                return takeEither(depth + 1) && take(')');
            }
            return takeTest();
        }

        private boolean takeTest() {
            int letter = next();
            if (letter < 0 || "pkvswm".indexOf((char) letter) < 0) {
                return false;
            }
            place++;
            int sign = next();
            if (sign != '<' && sign != '=' && sign != '>') {
                return false;
            }
            place++;
            if (!takeNumber()) {
                return false;
            }
            addStep(sign == '<' ? LESS : sign == '=' ? EQUAL : MORE, letter, number);
            return true;
        }

        private boolean takeNumber() {
            number = 0;
            int digits = 0;
            while (digits < 2 && place < length && text[place] >= '0' && text[place] <= '9') {
                number = 10 * number + text[place] - '0';
                place++;
                digits++;
            }
            return digits > 0;
        }

        private boolean takeAll(String signs) {
            for (int k = 0; k < signs.length(); k++) {
                if (!take(signs.charAt(k))) {
                    return false;
                }
            }
            return true;
        }

        private boolean take(int sign) {
            if (next() != sign) {
                return false;
            }
            place++;
            return true;
        }

        /** The byte that comes next; NONE at the end of THE TEXT. */
        private int next() {
            return place < length ? text[place] : NONE;
        }

        private void addStep(int step, int a, int b) {
            if (stepsEnd + STEP <= steps.length) {
                steps[stepsEnd] = step;
                steps[stepsEnd + 1] = a;
                steps[stepsEnd + 2] = b;
                stepsEnd += STEP;
            }
        }
    }

    /** What the bodies of one act need and leave: whose act it is, and THE TRACE. */
    private static final class Acting {
        final int[] bodies = new int[MOST_TRACE];
        int ran;
        int number;
        int v;

        void begin(int body) {
            if (ran < MOST_TRACE) {
                bodies[ran] = body;
            }
            ran++;
        }
    }

    private static class Rocket {
        int brightness(World world, int[] cells, int sum) {
            return sum;
        }

        int hisses(Acting acting, int x) {
            acting.begin(10);
            return x + acting.number;
        }

        int climbs(Acting acting, int x) {
            acting.begin(11);
            return hisses(acting, x) - acting.v;
        }

        int tells(Acting acting, int x) {
            acting.begin(12);
            return climbs(acting, x) * 2;
        }
    }

    private static class Fountain extends Rocket {
        int brightness(World world, int[] cells, int sum) {
            return sum + cells[V];
        }

        int climbs(Acting acting, int x) {
            acting.begin(20);
            return super.climbs(acting, x) ^ 6;
        }
    }

    private static class Whistle extends Rocket {
        int brightness(World world, int[] cells, int sum) {
            return sum / 2;
        }

        int hisses(Acting acting, int x) {
            acting.begin(30);
            return super.hisses(acting, x * 3);
        }
    }

    private static class Frame extends Rocket {
        int brightness(World world, int[] cells, int sum) {
            return world.rainNow() > cells[V] ? 0 : sum;
        }

        int tells(Acting acting, int x) {
            acting.begin(40);
            return super.tells(acting, x) + climbs(acting, 1);
        }
    }

    private static final class Cake extends Fountain {
        int brightness(World world, int[] cells, int sum) {
            return super.brightness(world, cells, sum) + 2 * Integer.bitCount(world.rocketsIn(SEEN));
        }

        int hisses(Acting acting, int x) {
            acting.begin(50);
            return -super.hisses(acting, x);
        }

        int climbs(Acting acting, int x) {
            acting.begin(51);
            return super.climbs(acting, x + 1);
        }
    }

    private static final class Wheel extends Whistle {
        int brightness(World world, int[] cells, int sum) {
            int half = super.brightness(world, cells, sum);
            return world.minute % 3 == 0 ? 2 * half : half;
        }

        int tells(Acting acting, int x) {
            acting.begin(60);
            return super.tells(acting, x - acting.number);
        }
    }

    private static final class Told extends Frame {
        int brightness(World world, int[] cells, int sum) {
            return super.brightness(world, cells, sum) + cells[ROW + world.minute % RAINS];
        }

        int climbs(Acting acting, int x) {
            acting.begin(70);
            return super.climbs(acting, x) + super.hisses(acting, 2);
        }

        int hisses(Acting acting, int x) {
            acting.begin(71);
            return super.hisses(acting, x) ^ acting.v;
        }
    }
}
