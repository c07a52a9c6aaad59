import java.util.Arrays;

/** Farms paid by fields drawn on a grid, as ../shared/DOC.md says. */
public final class AcresPaid {
    public static final int BAD = -1, NOT = -2, FULL = -3, BIG = -4, VOID = -2000000000;

    // the host's refusals
    private static final int NOTHING_THERE = -11, OTHER_KIND = -12, NO_PLACE = -13, NO_SIZE = -14;

    private static final int NONE = -1;

    private static final int LAST_DAY = 3649, YEAR_DAYS = 365, YEARS = 10;
    private static final int BODIES = 150, LANDS = 4, HANDOVERS = 200;
    private static final int SIDE = 24, CORNERS = 12, ALL_SQUARES_OF_A_ROW = (1 << SIDE) - 1;
    private static final int CLAIMS = 300, OUTS = 40, CONTROLS = 200, MOST_MISSING = 576;
    private static final int CROPS = 8, WEEKS = 6, COLOURS = 100;
    private static final int TAPE = 160, TEXTS = 16, USES = 4, FAULTY = -100, OPEN_AT_MOST = 8, DIGITS = 6;
    private static final int MOST_COINS = 2000000000, LEAST_BACK = -1999999999, SQUARES_OF_A_PERMIT = 10;
    private static final int GIVEN_AT_MOST = 10, DRAWN_AT_MOST = 9, JUDGED_AT_MOST = 8, PLOTS = 6;
    private static final int SHELVES = 6, PLACES = 60, KEPT_OF_A_TRACE = 24;

    private static final int BODY = 0, FARM = 1, YOUNG = 2, SMALL = 3, FIELD = 4, MEADOW = 5, PERMIT = 6, HEIR = 7;
    private static final int KINDS = 8;
    // the kind that stands above each kind
    private static final int[] ABOVE = {NONE, BODY, FARM, FARM, BODY, FIELD, BODY, YOUNG};

    private static final int RATE = 0, GREEN = 1, STEP = 2, FINE = 3;

    private static final String NAME_SIGNS = "yksfgctlepmjb";
    private static final int NAMES = 13;
    private static final int IN_YEAR = 0, OF_KIND = 1, COUNTED = 2, FOUND = 3, GRASS = 4, CROPS_GROWN = 5, TOP_CROP = 6;
    private static final int LATE = 7, ERRORS = 8, PERMITS_HELD = 9, SUM_SO_FAR = 10, MAJEURE = 11, ERRORS_BEFORE = 12;

    private static final int BYTES = 0, SHORTS = 1, INTS = 2, LONGS = 3, BOOLEANS = 4, A_BODY = 5;

    private final Register register = new Register();
    private final Ring ring = new Ring();
    private final Claims claims = new Claims(register);
    private final Texts texts = new Texts();
    private final Accounts accounts = new Accounts(register, claims, texts);
    private final Picks picks = new Picks(register, claims, accounts);
    private final Mix mixer = new Mix();
    private final Colours colours = new Colours();
    private final Acts acts = new Acts();
    private final Shelves shelves = new Shelves();

    public AcresPaid() {
    }

    private static boolean within(int v, int low, int high) {
        return low <= v && v <= high;
    }

    private static boolean isDay(int day) {
        return within(day, 0, LAST_DAY);
    }

    private static boolean isYear(int year) {
        return within(year, 0, YEARS - 1);
    }

    private static boolean isLand(int land) {
        return within(land, 0, LANDS - 1);
    }

    private static boolean isCrop(int crop) {
        return within(crop, 0, CROPS - 1);
    }

    private static boolean isShelf(int shelf) {
        return within(shelf, 0, SHELVES - 1);
    }

    private static boolean isUse(int what) {
        return what >= 0 && isLand(what / 10) && what % 10 < USES;
    }

    // ---- days, bodies

    public int days(int n) {
        if (!within(n, 1, YEAR_DAYS) || register.day + n > LAST_DAY) {
            return BAD;
        }
        register.day += n;
        return register.day;
    }

    public int body() {
        return register.isFull() ? FULL : register.add(BODY, 0, NONE);
    }

    public int farm(int kind, int land) {
        if (!Register.isFarmKind(kind) || !isLand(land)) {
            return BAD;
        }
        return register.isFull() ? FULL : register.add(kind, land, NONE);
    }

    public int corner(int x, int y) {
        if (!within(x, 0, SIDE) || !within(y, 0, SIDE)) {
            return BAD;
        }
        return ring.n >= CORNERS ? FULL : ring.add(x, y);
    }

    public int uncorner() {
        int had = ring.n;
        ring.n = 0;
        return had;
    }

    public int area() {
        return ring.isSound() ? ring.squares() : NOT;
    }

    public int field(int farm, int meadow) {
        if (!register.isFarm(farm) || !within(meadow, 0, 1)) {
            return BAD;
        }
        if (!ring.isSound()) {
            return NOT;
        }
        if (register.isFull()) {
            return FULL;
        }
        int number = register.add(meadow == 1 ? MEADOW : FIELD, ring.squares(), farm);
        register.outline(number, ring);
        ring.n = 0;
        return number;
    }

    public int permit(int value) {
        if (!within(value, 1, 999)) {
            return BAD;
        }
        return register.isFull() ? FULL : register.addPermit(value);
    }

    public int ofBody(int body, int what) {
        if (!register.isBody(body)) {
            return VOID;
        }
        boolean ofField = register.isField(body);
        boolean ofPermit = register.kinds[body] == PERMIT;
        switch (what) {
            case 0:
                return register.kinds[body];
            case 1:
                return register.kinds[body] == BODY ? VOID : register.measures[body];
            case 2:
                return ofField ? register.told[body] : VOID;
            case 3:
                return ofField ? register.gone[body] : VOID;
            case 4:
                return ofField || ofPermit ? register.holderOf(body, register.day, register.day) : VOID;
            default:
                return VOID;
        }
    }

    public int has(int field, int x, int y) {
        if (!register.isField(field) || !within(x, 0, SIDE - 1) || !within(y, 0, SIDE - 1)) {
            return BAD;
        }
        return register.rowOf(field, y) >> x & 1;
    }

    public int giveUp(int field) {
        if (!register.isField(field)) {
            return BAD;
        }
        if (register.gone[field] != NONE) {
            return NOT;
        }
        register.gone[field] = register.day;
        register.fieldsGone++;
        return 1;
    }

    public int handOver(int body, int farm, int day) {
        if (!register.isHeld(body) || !register.isFarm(farm) || !isDay(day)) {
            return BAD;
        }
        return register.handed >= HANDOVERS ? FULL : register.pass(body, farm, day);
    }

    public int holder(int body, int day, int k) {
        if (!register.isHeld(body) || !isDay(day) || !isDay(k)) {
            return BAD;
        }
        int farm = register.holderOf(body, day, k);
        return farm == NONE ? NOT : farm;
    }

    // ---- claims, outs, controls

    public int claim(int farm, int field, int crop) {
        if (!register.isFarm(farm) || !register.isField(field) || !isCrop(crop)) {
            return BAD;
        }
        if (register.kinds[field] == MEADOW && crop != 0) {
            return BAD;
        }
        if (register.holderOf(field, register.day, register.day) != farm || register.gone[field] != NONE) {
            return NOT;
        }
        return claims.n >= CLAIMS ? FULL : claims.add(farm, field, crop);
    }

    public int close(int land, int v) {
        if (!isLand(land) || !within(v, 0, YEAR_DAYS - 1)) {
            return BAD;
        }
        int was = claims.closes[land];
        claims.closes[land] = v;
        return was;
    }

    public int out(int a, int b, int day) {
        if (a < 0 || b < 0 || !isDay(day)) {
            return BAD;
        }
        int x0 = a / 100, y0 = a % 100, x1 = b / 100, y1 = b % 100;
        if (x0 > x1 || y0 > y1 || x1 >= SIDE || y1 >= SIDE) {
            return BAD;
        }
        return claims.outs >= OUTS ? FULL : claims.addOut(a, b, day);
    }

    public int counted(int farm, int field, int year, int k, int what) {
        if (!register.isFarm(farm) || !register.isField(field) || !isYear(year) || !isDay(k) || !within(what, 0, 4)) {
            return BAD;
        }
        Season season = accounts.season(year, k);
        int i = season.placeOf(farm, field);
        if (i == NONE) {
            return NOT;
        }
        switch (what) {
            case 0:
                return season.sizes[i];
            case 1:
                return season.sizes[i] - season.lost[i];
            case 2:
                return claims.crops[season.list[i]];
            case 3:
                return register.squaresAmong(field, season.fault);
            default:
                return claims.lateness(season.list[i]);
        }
    }

    public int control(int farm, int field, int year, int missing) {
        if (!register.isFarm(farm) || !register.isField(field) || !isYear(year) || !within(missing, 0, MOST_MISSING)) {
            return BAD;
        }
        if (accounts.season(year, register.day).placeOf(farm, field) == NONE) {
            return NOT;
        }
        return claims.controls >= CONTROLS ? FULL : claims.addControl(farm, field, year, missing);
    }

    public int majeure(int farm, int year) {
        if (!register.isFarm(farm) || !isYear(year)) {
            return BAD;
        }
        return claims.prove(farm, year) ? 1 : NOT;
    }

    // ---- colours

    public int colour(int crop, int week, int v) {
        if (!isCrop(crop) || !within(week, 0, WEEKS - 1) || !within(v, 0, COLOURS - 1)) {
            return BAD;
        }
        return colours.paint(crop, week, v);
    }

    public int see(int field, int year, int shelf, int i) {
        if (!register.isField(field) || !isYear(year) || !isShelf(shelf)) {
            return BAD;
        }
        int sort = shelves.sorts[shelf];
        if (sort != NONE && sort != BYTES) {
            return OTHER_KIND;
        }
        return colours.look(field, year, shelves, shelf, i);
    }

    public int blank(int v) {
        int was = colours.blankSign;
        colours.blankSign = v;
        return was;
    }

    public int looks(int field, int year, int what) {
        if (!register.isField(field) || !isYear(year) || !within(what, 0, 1)) {
            return BAD;
        }
        return colours.judge(field, year, what);
    }

    // ---- texts

    public int feed(int n, int v) {
        if (!within(n, 1, 4)) {
            return BAD;
        }
        return texts.length + n > TAPE ? FULL : texts.take(n, v);
    }

    public int text(int what, int year) {
        if (!isUse(what) || !isYear(year)) {
            return BAD;
        }
        return texts.n >= TEXTS ? FULL : texts.make(what, year, register.day);
    }

    public int inForce(int what, int year, int k) {
        if (!isUse(what) || !isYear(year) || !isDay(k)) {
            return BAD;
        }
        int text = texts.standing(what, year, k);
        return text == NONE ? NOT : text;
    }

    public int named(int farm, int year, int k, int name) {
        if (!register.isFarm(farm) || !isYear(year) || !isDay(k) || !within(name, 0, NAMES - 1)) {
            return BAD;
        }
        accounts.know(farm, year, k);
        return accounts.names[name];
    }

    // ---- payments

    public int paid(int farm, int year, int k, int what) {
        if (!register.isFarm(farm) || !isYear(year) || !isDay(k) || !within(what, 0, 6)) {
            return VOID;
        }
        int all = accounts.pay(farm, year, k, NONE);
        if (what == 0) {
            return all;
        }
        return what == 6 ? accounts.fineLine : accounts.sums[what];
    }

    public int settle(int farm, int year) {
        if (!register.isFarm(farm) || !within(year, 0, register.day / YEAR_DAYS)) {
            return BAD;
        }
        return accounts.keepSettled(farm, year);
    }

    public int back(int farm) {
        return register.isFarm(farm) ? accounts.owedFor(farm) : VOID;
    }

    public int budget(int farm, int year, int v) {
        if (!register.isFarm(farm) || !isYear(year) || !within(v, 0, MOST_COINS)) {
            return BAD;
        }
        return accounts.shareOf(farm, year, v);
    }

    // ---- giving up, controls, mixes

    public int least(int year) {
        return isYear(year) ? picks.leastToGive(accounts.season(year, register.day)) : BAD;
    }

    public int given(int i) {
        return within(i, 0, picks.givenCount - 1) ? picks.givenFields[i] : BAD;
    }

    public int lots(int v) {
        picks.lot = v;
        return 1;
    }

    public int draw(int land, int year, int n) {
        if (!isLand(land) || !isYear(year) || !within(n, 1, DRAWN_AT_MOST)) {
            return BAD;
        }
        return picks.drawFarms(land, year, n);
    }

    public int drawn(int i) {
        return within(i, 0, picks.drawnCount - 1) ? picks.drawnFarms[i] : BAD;
    }

    public int rate(int year, int what, int pw) {
        if (!isYear(year) || !within(what, 0, 2)) {
            return BAD;
        }
        if (what == 2 && (!within(pw / 100, 1, 99) || !within(pw % 100, 1, 49))) {
            return BAD;
        }
        picks.judge(year);
        switch (what) {
            case 0:
                return picks.controlled;
            case 1:
                return picks.wrong;
            default:
                return picks.unlike(pw / 100, pw % 100);
        }
    }

    public int plot(int squares) {
        if (!within(squares, 1, SIDE * SIDE)) {
            return BAD;
        }
        return mixer.n >= PLOTS ? FULL : mixer.add(squares);
    }

    public int worth(int crop, int v) {
        if (!isCrop(crop) || !within(v, 0, 99)) {
            return BAD;
        }
        int was = mixer.coins[crop];
        mixer.coins[crop] = v;
        return was;
    }

    public int mix(int most, int n) {
        if (!within(most, 1, 100) || !within(n, 1, 3) || mixer.n == 0) {
            return BAD;
        }
        return mixer.find(most, n);
    }

    public int mixed(int i) {
        return within(i, 0, mixer.chosenCount - 1) ? mixer.chosen[i] : BAD;
    }

    public int tried(int text, int land, int year, int what) {
        if (!texts.isRate(text) || !isLand(land) || !isYear(year) || !within(what, 0, 1)) {
            return BAD;
        }
        return accounts.changedBy(text, land, year, what == 0);
    }

    // ---- acts, shelves

    public int act(int body, int act, int x) {
        if (!register.isBody(body) || !within(act, 0, 3)) {
            acts.ran = 0;
            return 0;
        }
        return acts.run(body, register.kinds[body], register.measures[body], act, x);
    }

    public int trace(int i) {
        return within(i, 0, Math.min(acts.ran, KEPT_OF_A_TRACE) - 1) ? acts.kept[i] : BAD;
    }

    public int keep(int shelf, int body) {
        if (!isShelf(shelf) || body != NONE && !register.isBody(body)) {
            return BAD;
        }
        return body == NONE ? shelves.empty(shelf) : shelves.hold(shelf, body);
    }

    public int row(int shelf, int sort, int n) {
        if (!isShelf(shelf) || !within(sort, BYTES, BOOLEANS) || n > PLACES) {
            return BAD;
        }
        return n < 0 ? NO_SIZE : shelves.lay(shelf, sort, n);
    }

    public int put(int shelf, int i, long v) {
        return isShelf(shelf) ? shelves.write(shelf, i, v) : BAD;
    }

    public long element(int shelf, int i) {
        return isShelf(shelf) ? shelves.read(shelf, i) : Long.MIN_VALUE;
    }

    public int shift(int shelf, int i, int other, int j, int n) {
        return isShelf(shelf) && isShelf(other) ? shelves.copy(shelf, i, other, j, n) : BAD;
    }

    public int taken(int shelf, int k) {
        if (!isShelf(shelf) || !within(k, 0, KINDS - 1)) {
            return BAD;
        }
        int sort = shelves.sorts[shelf];
        if (sort == NONE) {
            return NOTHING_THERE;
        }
        if (sort != A_BODY) {
            return OTHER_KIND;
        }
        int kind = register.kinds[shelves.held[shelf]];
        return Register.isUnder(kind, k) ? kind : OTHER_KIND;
    }

    public int count(int what) {
        switch (what) {
            case 0:
                return register.n;
            case 1:
                return register.farms;
            case 2:
                return register.fields;
            case 3:
                return register.permits;
            case 4:
                return claims.n;
            case 5:
                return register.handed;
            case 6:
                return claims.controls;
            case 7:
                return register.day;
            case 8:
                return texts.n;
            case 9:
                return texts.length;
            case 10:
                return ring.n;
            case 11:
                return acts.ran;
            default:
                return BAD;
        }
    }

    /** THE RING: corners told one behind another. */
    private static final class Ring {
        private final int[] xs = new int[CORNERS];
        private final int[] ys = new int[CORNERS];
        int n;

        int add(int x, int y) {
            if (n < CORNERS) {
                xs[n] = x;
                ys[n] = y;
                n++;
            }
            return n;
        }

        boolean isSound() {
            if (n < 4 || n % 2 != 0) {
                return false;
            }
            for (int i = 0; i < n; i++) {
                if (!goesItsWay(i)) {
                    return false;
                }
                for (int j = i + 1; j < n; j++) {
                    if (next(i) != j && next(j) != i && meet(i, j)) {
                        return false;
                    }
                }
            }
            return true;
        }

        int squares() {
            int twice = 0;
            for (int i = 0; i < n; i++) {
                int j = next(i);
                twice += xs[i] * ys[j] - xs[j] * ys[i];
            }
            return Math.abs(twice) / 2;
        }

        /** The squares inside in a row, a bit each: every side up or down turns those behind it. */
        int insideOfRow(int y) {
            int bits = 0;
            for (int i = 1; i < n; i += 2) {
                int a = ys[i], b = ys[next(i)];
                if (Math.min(a, b) <= y && y < Math.max(a, b)) {
                    bits ^= ALL_SQUARES_OF_A_ROW & -1 << xs[i];
                }
            }
            return bits;
        }

        private int next(int i) {
            return i + 1 < n ? i + 1 : 0;
        }

        private boolean goesItsWay(int i) {
            int j = next(i);
            boolean level = ys[i] == ys[j];
            boolean upright = xs[i] == xs[j];
            return i % 2 == 0 ? level && !upright : upright && !level;
        }

        private boolean meet(int i, int j) {
            return overlap(xs[i], xs[next(i)], xs[j], xs[next(j)]) && overlap(ys[i], ys[next(i)], ys[j], ys[next(j)]);
        }

        private static boolean overlap(int a, int b, int c, int d) {
            return Math.max(Math.min(a, b), Math.min(c, d)) <= Math.min(Math.max(a, b), Math.max(c, d));
        }
    }

    /** The bodies, as they come, and who holds them. */
    private static final class Register {
        int day;
        int n;
        int farms;
        int fields;
        int permits;
        int fieldsGone;
        int handed;
        final int[] kinds = new int[BODIES];
        // LAND of a farm, AREA of a field, VALUE of a permit
        final int[] measures = new int[BODIES];
        final int[] told = new int[BODIES];
        final int[] gone = new int[BODIES];
        // the permits, the dearest first, of like ones the least number
        final int[] dearest = new int[BODIES];
        private final int[] tellers = new int[BODIES];
        private final int[] rows = new int[BODIES * SIDE];
        private final int[] handedBody = new int[HANDOVERS];
        private final int[] handedTo = new int[HANDOVERS];
        private final int[] handedFrom = new int[HANDOVERS];
        private final int[] handedOn = new int[HANDOVERS];

        static boolean isFarmKind(int kind) {
            return within(kind, FARM, SMALL) || kind == HEIR;
        }

        static boolean isUnder(int kind, int above) {
            int at = kind;
            for (int i = 0; i < KINDS && at != NONE; i++) {
                if (at == above) {
                    return true;
                }
                at = ABOVE[at];
            }
            return false;
        }

        boolean isFull() {
            return n >= BODIES;
        }

        boolean isBody(int body) {
            return within(body, 0, n - 1);
        }

        boolean isFarm(int body) {
            return isBody(body) && isFarmKind(kinds[body]);
        }

        boolean isFarmOf(int body, int land) {
            return isFarm(body) && measures[body] == land;
        }

        boolean isField(int body) {
            return isBody(body) && within(kinds[body], FIELD, MEADOW);
        }

        boolean isHeld(int body) {
            return isBody(body) && within(kinds[body], FIELD, PERMIT);
        }

        int add(int kind, int measure, int teller) {
            int number = n;
            if (isFull()) {
                return FULL;
            }
            kinds[number] = kind;
            measures[number] = measure;
            tellers[number] = teller;
            told[number] = day;
            gone[number] = NONE;
            farms += isFarmKind(kind) ? 1 : 0;
            fields += within(kind, FIELD, MEADOW) ? 1 : 0;
            n++;
            return number;
        }

        int addPermit(int value) {
            int number = add(PERMIT, value, NONE);
            if (number < 0) {
                return number;
            }
            int at = permits;
            while (at > 0 && measures[dearest[at - 1]] < value) {
                dearest[at] = dearest[at - 1];
                at--;
            }
            dearest[at] = number;
            permits++;
            return number;
        }

        void outline(int field, Ring ring) {
            for (int y = 0; y < SIDE; y++) {
                rows[field * SIDE + y] = ring.insideOfRow(y);
            }
        }

        int rowOf(int field, int y) {
            return rows[field * SIDE + y];
        }

        int squaresAmong(int field, int[] bits) {
            int squares = 0;
            for (int y = 0; y < SIDE; y++) {
                squares += Integer.bitCount(rowOf(field, y) & bits[y]);
            }
            return squares;
        }

        boolean meet(int field, int other) {
            for (int y = 0; y < SIDE; y++) {
                if ((rowOf(field, y) & rowOf(other, y)) != 0) {
                    return true;
                }
            }
            return false;
        }

        int pass(int body, int farm, int from) {
            if (handed < HANDOVERS) {
                handedBody[handed] = body;
                handedTo[handed] = farm;
                handedFrom[handed] = from;
                handedOn[handed] = day;
                handed++;
            }
            return handed;
        }

        int holderOf(int body, int onDay, int k) {
            int holder = tellers[body];
            int latest = 0;
            for (int i = 0; i < handed; i++) {
                boolean known = handedBody[i] == body && handedOn[i] <= k;
                if (known && within(handedFrom[i], latest, onDay)) {
                    latest = handedFrom[i];
                    holder = handedTo[i];
                }
            }
            return holder;
        }
    }

    /** What is told of farms and fields: claims, outs, controls, majeure. */
    private static final class Claims {
        private final Register register;
        int n;
        int outs;
        int controls;
        final int[] farms = new int[CLAIMS];
        final int[] fields = new int[CLAIMS];
        final int[] crops = new int[CLAIMS];
        private final int[] on = new int[CLAIMS];
        // the claims by farm, by field, as they came
        final int[] order = new int[CLAIMS];
        final int[] closes = {135, 135, 135, 135};
        private final int[] outFrom = new int[OUTS];
        private final int[] outTo = new int[OUTS];
        private final int[] outStart = new int[OUTS];
        private final int[] outOn = new int[OUTS];
        private final int[] controlFarm = new int[CONTROLS];
        private final int[] controlField = new int[CONTROLS];
        private final int[] controlYear = new int[CONTROLS];
        private final int[] controlMissing = new int[CONTROLS];
        private final int[] controlOn = new int[CONTROLS];
        // the day behind that of the proof, by farm and year; 0: not proved
        private final int[] proved = new int[BODIES * YEARS];

        Claims(Register register) {
            this.register = register;
        }

        int add(int farm, int field, int crop) {
            if (n < CLAIMS) {
                farms[n] = farm;
                fields[n] = field;
                crops[n] = crop;
                on[n] = register.day;
                int at = n;
                while (at > 0 && isBehind(order[at - 1], farm, field)) {
                    order[at] = order[at - 1];
                    at--;
                }
                order[at] = n;
                n++;
            }
            return n;
        }

        private boolean isBehind(int claim, int farm, int field) {
            return farms[claim] > farm || farms[claim] == farm && fields[claim] > field;
        }

        /** Whether the claim at a place of the order counts for a year, as known on k. */
        boolean counts(int place, int year, int k) {
            int claim = order[place];
            int gone = register.gone[fields[claim]];
            if (!wasMade(claim, year, k) || gone != NONE && gone <= k) {
                return false;
            }
            if (place + 1 >= n) {
                return true;
            }
            int later = order[place + 1];
            return isBehind(later, farms[claim], fields[claim]) || !wasMade(later, year, k);
        }

        private boolean wasMade(int claim, int year, int k) {
            return on[claim] / YEAR_DAYS == year && on[claim] <= k;
        }

        int lateness(int claim) {
            int land = register.measures[farms[claim]];
            return isLand(land) ? Math.max(0, on[claim] % YEAR_DAYS - closes[land]) : 0;
        }

        int addOut(int from, int to, int start) {
            if (outs < OUTS) {
                outFrom[outs] = from;
                outTo[outs] = to;
                outStart[outs] = start;
                outOn[outs] = register.day;
                outs++;
            }
            return outs;
        }

        /** The squares of a row that are out in a year, as known on k. */
        int outOfRow(int y, int year, int k) {
            int bits = 0;
            for (int i = 0; i < outs; i++) {
                boolean known = outOn[i] <= k && outStart[i] <= year * YEAR_DAYS;
                if (known && outFrom[i] % 100 <= y && y <= outTo[i] % 100) {
                    bits |= (2 << outTo[i] / 100) - (1 << outFrom[i] / 100);
                }
            }
            return bits;
        }

        int addControl(int farm, int field, int year, int missing) {
            if (controls < CONTROLS) {
                controlFarm[controls] = farm;
                controlField[controls] = field;
                controlYear[controls] = year;
                controlMissing[controls] = missing;
                controlOn[controls] = register.day;
                controls++;
            }
            return controls;
        }

        int missing(int claim, int year, int k) {
            for (int i = controls - 1; i >= 0; i--) {
                boolean ofClaim = controlFarm[i] == farms[claim] && controlField[i] == fields[claim];
                if (ofClaim && controlYear[i] == year && controlOn[i] <= k) {
                    return controlMissing[i];
                }
            }
            return 0;
        }

        boolean isControlled(int farm, int year) {
            for (int i = 0; i < controls; i++) {
                if (controlFarm[i] == farm && controlYear[i] == year) {
                    return true;
                }
            }
            return false;
        }

        boolean prove(int farm, int year) {
            int i = farm * YEARS + year;
            if (proved[i] != 0) {
                return false;
            }
            proved[i] = register.day + 1;
            return true;
        }

        boolean isProved(int farm, int year, int k) {
            return within(proved[farm * YEARS + year], 1, k + 1);
        }
    }

    /** The claims that count for a year, as known on a day, and their squares. */
    private static final class Season {
        private final Register register;
        private final Claims claims;
        private final int year;
        int k = NONE;
        int stamp = NONE;
        int n;
        // claims by farm and field, with their squares counted and those told as missing
        final int[] list = new int[CLAIMS];
        final int[] sizes = new int[CLAIMS];
        final int[] lost = new int[CLAIMS];
        final int[] fault = new int[SIDE];
        // by farm
        final int[] squares = new int[BODIES];
        final int[] misses = new int[BODIES];
        final int[] latest = new int[BODIES];

        Season(Register register, Claims claims, int year) {
            this.register = register;
            this.claims = claims;
            this.year = year;
        }

        void build(int knownOn, int newStamp) {
            k = knownOn;
            stamp = newStamp;
            n = 0;
            for (int i = 0; i < claims.n; i++) {
                if (claims.counts(i, year, k)) {
                    list[n] = claims.order[i];
                    n++;
                }
            }
            Arrays.fill(sizes, 0);
            for (int y = 0; y < SIDE; y++) {
                fault[y] = faultOfRow(y);
                countRow(y);
            }
            sumUp();
        }

        int placeOf(int farm, int field) {
            for (int i = 0; i < n; i++) {
                if (farmAt(i) == farm && fieldAt(i) == field) {
                    return i;
                }
            }
            return NONE;
        }

        boolean isClaimed(int field) {
            for (int i = 0; i < n; i++) {
                if (fieldAt(i) == field) {
                    return true;
                }
            }
            return false;
        }

        int farmAt(int i) {
            return claims.farms[list[i]];
        }

        int fieldAt(int i) {
            return claims.fields[list[i]];
        }

        int errorsOf(int farm) {
            int found = squares[farm] - misses[farm];
            if (found == 0) {
                return squares[farm] == 0 ? 0 : 999;
            }
            return Math.min(999, 100 * misses[farm] / found);
        }

        private int faultOfRow(int y) {
            int once = 0;
            int more = 0;
            int own = 0;
            for (int i = 0; i < n; i++) {
                if (i > 0 && farmAt(i) != farmAt(i - 1)) {
                    more |= once & own;
                    once |= own;
                    own = 0;
                }
                own |= register.rowOf(fieldAt(i), y);
            }
            return more | once & own;
        }

        private void countRow(int y) {
            int barred = fault[y] | claims.outOfRow(y, year, k);
            int lesser = 0;
            for (int i = 0; i < n; i++) {
                if (i > 0 && farmAt(i) != farmAt(i - 1)) {
                    lesser = 0;
                }
                int row = register.rowOf(fieldAt(i), y);
                sizes[i] += Integer.bitCount(row & ~barred & ~lesser);
                lesser |= row;
            }
        }

        private void sumUp() {
            Arrays.fill(squares, 0);
            Arrays.fill(misses, 0);
            Arrays.fill(latest, NONE);
            for (int i = 0; i < n; i++) {
                int farm = farmAt(i);
                lost[i] = Math.min(sizes[i], claims.missing(list[i], year, k));
                squares[farm] += sizes[i];
                misses[farm] += lost[i];
                latest[farm] = Math.max(latest[farm], list[i]);
            }
        }
    }

    /** The tape, and the texts made of it. */
    private static final class Texts {
        private final byte[] tape = new byte[TAPE];
        int length;
        private final byte[] store = new byte[TEXTS * TAPE];
        private final int[] lengths = new int[TEXTS];
        private final int[] whats = new int[TEXTS];
        private final int[] since = new int[TEXTS];
        private final int[] madeOn = new int[TEXTS];
        int n;
        private final int[] unknown = new int[NAMES];
        // the reading of a text: where it starts, its length, the place reached, its fault, its names
        private int start;
        private int end;
        private int at;
        private int fault;
        private int[] names = unknown;
        // the line that counted in the latest reading
        int line;

        int take(int count, int v) {
            for (int i = 0; i < count && length < TAPE; i++) {
                tape[length] = (byte) (v >> 8 * i);
                length++;
            }
            return length;
        }

        int make(int what, int year, int day) {
            if (n >= TEXTS) {
                return FULL;
            }
            System.arraycopy(tape, 0, store, n * TAPE, length);
            lengths[n] = length;
            length = 0;
            int faultAt = faultOf(n);
            if (faultAt != NONE) {
                return FAULTY - faultAt;
            }
            whats[n] = what;
            since[n] = year;
            madeOn[n] = day;
            n++;
            return n - 1;
        }

        boolean isRate(int text) {
            return within(text, 0, n - 1) && whats[text] % 10 == RATE;
        }

        int standing(int what, int year, int k) {
            for (int i = n - 1; i >= 0; i--) {
                if (whats[i] == what && since[i] <= year && madeOn[i] <= k) {
                    return i;
                }
            }
            return NONE;
        }

        int say(int text, int[] known) {
            open(text, known);
            for (int i = 0; i < TAPE; i++) {
                int value = either(0);
                boolean counting = true;
                if (takes('?')) {
                    counting = value != 0;
                    value = either(0);
                }
                if (counting) {
                    line = i;
                    return value;
                }
                if (!takes(';')) {
                    return 0;
                }
            }
            return 0;
        }

        private int faultOf(int text) {
            open(text, unknown);
            boolean more = true;
            for (int i = 0; i < TAPE && more; i++) {
                either(0);
                if (takes('?')) {
                    either(0);
                }
                more = takes(';');
            }
            if (fault == NONE && at < end) {
                fault = at;
            }
            return fault;
        }

        private void open(int text, int[] known) {
            start = text * TAPE;
            end = lengths[text];
            at = 0;
            fault = NONE;
            names = known;
            line = NONE;
        }

        /** The byte at the place reached; NONE behind the end or a fault. */
        private int sign() {
            return fault == NONE && at < end ? store[start + at] & 255 : NONE;
        }

        private boolean takes(char wanted) {
            boolean there = sign() == wanted;
            at += there ? 1 : 0;
            return there;
        }

        private void fail() {
            if (fault == NONE) {
                fault = at;
            }
        }

        private static int truth(boolean b) {
            return b ? 1 : 0;
        }

        private int either(int open) {
            int value = both(open);
            for (int i = 0; i < TAPE && takes('|'); i++) {
                int other = both(open);
                value = truth(value != 0 || other != 0);
            }
            return value;
        }

        private int both(int open) {
            int value = compared(open);
            for (int i = 0; i < TAPE && takes('&'); i++) {
                int other = compared(open);
                value = truth(value != 0 && other != 0);
            }
            return value;
        }

        private int compared(int open) {
            int value = sum(open);
            if (takes('<')) {
                return truth(value < sum(open));
            }
            if (takes('=')) {
                return truth(value == sum(open));
            }
            if (takes('>')) {
                return truth(value > sum(open));
            }
            return value;
        }

        private int sum(int open) {
            int value = product(open);
            for (int i = 0; i < TAPE; i++) {
                if (takes('+')) {
                    value += product(open);
                } else if (takes('-')) {
                    value -= product(open);
                } else {
                    return value;
                }
            }
            return value;
        }

        private int product(int open) {
            int value = operand(open);
            for (int i = 0; i < TAPE; i++) {
                if (takes('*')) {
                    value *= operand(open);
                } else if (takes('/')) {
                    int by = operand(open);
                    value = by == 0 ? 0 : value / by;
                } else if (takes('%')) {
                    int by = operand(open);
                    value = by == 0 ? 0 : value % by;
                } else {
                    return value;
                }
            }
            return value;
        }

        private int operand(int open) {
            int sign = sign();
            if (isDigit(sign)) {
                return number();
            }
            int name = sign == NONE ? NONE : NAME_SIGNS.indexOf((char) sign);
            if (name != NONE) {
                at++;
                return names[name];
            }
            if (open >= OPEN_AT_MOST) {
                fail();
                return 0;
            }
            if (takes('!')) {
                return truth(operand(open + 1) == 0);
            }
            if (takes('-')) {
                return -operand(open + 1);
            }
            if (!takes('(')) {
                fail();
                return 0;
            }
            int value = either(open + 1);
            if (!takes(')')) {
                fail();
            }
            return value;
        }

        private static boolean isDigit(int sign) {
            return '0' <= sign && sign <= '9';
        }

        private int number() {
            int value = 0;
            for (int i = 0; i < DIGITS && isDigit(sign()); i++) {
                value = value * 10 + sign() - '0';
                at++;
            }
            return value;
        }
    }

    /** What is known of farms for a year, and what they are paid. */
    private static final class Accounts {
        private final Register register;
        private final Claims claims;
        private final Texts texts;
        private final Season[] seasons = new Season[YEARS];
        final int[] names = new int[NAMES];
        private final int[] cropSquares = new int[CROPS];
        // the sum behind each step, from 1 on
        final int[] sums = new int[6];
        int fineLine;
        private final int[] settled = new int[BODIES * YEARS];
        private final int[] dues = new int[BODIES];

        Accounts(Register register, Claims claims, Texts texts) {
            this.register = register;
            this.claims = claims;
            this.texts = texts;
        }

        /** The season of a year, built anew when anything told since could change it. */
        Season season(int year, int k) {
            // all that a season is made of only ever grows in number
            int stamp = register.n + register.fieldsGone + claims.n + claims.outs + claims.controls;
            Season season = seasons[year];
            if (season == null) {
                season = new Season(register, claims, year);
                seasons[year] = season;
            }
            if (season.k != k || season.stamp != stamp) {
                season.build(k, stamp);
            }
            return season;
        }

        void know(int farm, int year, int k) {
            Season season = season(year, k);
            int squares = season.squares[farm];
            int grass = sumCrops(season, farm);
            names[IN_YEAR] = year;
            names[OF_KIND] = register.kinds[farm];
            names[COUNTED] = squares;
            names[FOUND] = squares - season.misses[farm];
            names[GRASS] = squares == 0 ? 0 : 100 * grass / squares;
            names[CROPS_GROWN] = cropsGrown();
            names[TOP_CROP] = squares == 0 ? 0 : 100 * squaresOfTopCrop() / squares;
            names[LATE] = season.latest[farm] == NONE ? 0 : claims.lateness(season.latest[farm]);
            names[ERRORS] = season.errorsOf(farm);
            names[PERMITS_HELD] = permitsOf(farm, year, k);
            names[SUM_SO_FAR] = 0;
            names[MAJEURE] = claims.isProved(farm, year, k) ? 1 : 0;
            names[ERRORS_BEFORE] = 0;
            for (int y = 0; y < year; y++) {
                names[ERRORS_BEFORE] += season(y, k).misses[farm] > 0 ? 1 : 0;
            }
        }

        /** Sums a farm's counted squares by crop; answers those in meadows. */
        private int sumCrops(Season season, int farm) {
            int grass = 0;
            Arrays.fill(cropSquares, 0);
            for (int i = 0; i < season.n; i++) {
                if (season.farmAt(i) == farm) {
                    cropSquares[claims.crops[season.list[i]]] += season.sizes[i];
                    grass += register.kinds[season.fieldAt(i)] == MEADOW ? season.sizes[i] : 0;
                }
            }
            return grass;
        }

        private int cropsGrown() {
            int grown = 0;
            for (int i = 0; i < CROPS; i++) {
                grown += cropSquares[i] > 0 ? 1 : 0;
            }
            return grown;
        }

        private int squaresOfTopCrop() {
            int most = 0;
            for (int i = 0; i < CROPS; i++) {
                most = Math.max(most, cropSquares[i]);
            }
            return most;
        }

        private int permitsOf(int farm, int year, int k) {
            int held = 0;
            for (int i = 0; i < register.permits; i++) {
                held += isHolder(farm, register.dearest[i], year, k) ? 1 : 0;
            }
            return held;
        }

        private boolean isHolder(int farm, int permit, int year, int k) {
            return register.holderOf(permit, year * YEAR_DAYS + YEAR_DAYS - 1, k) == farm;
        }

        /** Works out the steps; rate is a text in place of that in force, or NONE. */
        int pay(int farm, int year, int k, int rate) {
            know(farm, year, k);
            int uses = register.measures[farm] * 10;
            int text = rate == NONE ? texts.standing(uses + RATE, year, k) : rate;
            int squares = Math.min(names[FOUND], SQUARES_OF_A_PERMIT * names[PERMITS_HELD]);
            long each = text == NONE ? 1 : texts.say(text, names);
            sums[1] = held(each * squares + valueOf(squares, farm, year, k));
            sums[2] = greened(sums[1], texts.standing(uses + GREEN, year, k));
            sums[3] = stepped(sums[2], texts.standing(uses + STEP, year, k));
            sums[4] = fined(sums[3], texts.standing(uses + FINE, year, k));
            sums[5] = sums[4] - (int) ((long) sums[4] * Math.min(100, names[LATE]) / 100);
            return sums[5];
        }

        private static int held(long sum) {
            return (int) Math.max(0, Math.min(MOST_COINS, sum));
        }

        /** What the permits add for so many squares, the dearest first. */
        private long valueOf(int squares, int farm, int year, int k) {
            long value = 0;
            int left = squares;
            for (int i = 0; i < register.permits && left > 0; i++) {
                int permit = register.dearest[i];
                if (isHolder(farm, permit, year, k)) {
                    int used = Math.min(left, SQUARES_OF_A_PERMIT);
                    value += (long) used * register.measures[permit];
                    left -= used;
                }
            }
            return value;
        }

        private int greened(int sum, int text) {
            boolean green = text == NONE || texts.say(text, names) != 0;
            return green ? held(sum + (long) sum * 3 / 10) : sum;
        }

        private int stepped(int sum, int text) {
            if (text == NONE) {
                return sum;
            }
            names[SUM_SO_FAR] = sum;
            int left = texts.say(text, names);
            names[SUM_SO_FAR] = 0;
            return Math.max(0, Math.min(sum, left));
        }

        private int fined(int sum, int text) {
            fineLine = NONE;
            if (text == NONE) {
                return sum;
            }
            int fine = Math.max(0, Math.min(100, texts.say(text, names)));
            fineLine = texts.line;
            if (names[MAJEURE] == 1) {
                return sum;
            }
            return sum - (int) (((long) sum * fine + 99) / 100);
        }

        int keepSettled(int farm, int year) {
            int all = pay(farm, year, register.day, NONE);
            settled[farm * YEARS + year] = all;
            return all;
        }

        int owedFor(int farm) {
            long owed = 0;
            int present = register.day / YEAR_DAYS;
            for (int year = 0; year < present && year < YEARS; year++) {
                owed += pay(farm, year, register.day, NONE) - settled[farm * YEARS + year];
            }
            return (int) Math.max(LEAST_BACK, Math.min(MOST_COINS, owed));
        }

        int shareOf(int farm, int year, int budget) {
            int land = register.measures[farm];
            long all = 0;
            for (int i = 0; i < register.n; i++) {
                dues[i] = register.isFarmOf(i, land) ? pay(i, year, register.day, NONE) : 0;
                all += dues[i];
            }
            if (all <= budget || all <= 0) {
                return dues[farm];
            }
            return partOf(farm, budget, all);
        }

        private int partOf(int farm, long budget, long all) {
            long rest = budget * dues[farm] % all;
            long left = budget;
            int ahead = 0;
            for (int i = 0; i < register.n; i++) {
                long other = budget * dues[i] % all;
                left -= budget * dues[i] / all;
                ahead += other > rest || other == rest && i < farm ? 1 : 0;
            }
            return (int) (budget * dues[farm] / all) + (ahead < left ? 1 : 0);
        }

        int changedBy(int text, int land, int year, boolean more) {
            int changed = 0;
            for (int i = 0; i < register.n; i++) {
                if (register.isFarmOf(i, land)) {
                    int now = pay(i, year, register.day, NONE);
                    int then = pay(i, year, register.day, text);
                    changed += (more ? then > now : then < now) ? 1 : 0;
                }
            }
            return changed;
        }
    }

    /** Fields to give up, farms to control, and their rate of errors. */
    private static final class Picks {
        private final Register register;
        private final Claims claims;
        private final Accounts accounts;
        final int[] givenFields = new int[GIVEN_AT_MOST];
        int givenCount;
        private final int[] torn = new int[GIVEN_AT_MOST];
        // by place among the torn fields, as bits: those that can't stay beside it
        private final int[] against = new int[GIVEN_AT_MOST];
        int lot;
        final int[] drawnFarms = new int[DRAWN_AT_MOST];
        int drawnCount;
        private final int[] pool = new int[BODIES];
        private final int[] risks = new int[BODIES];
        private int poolSize;
        int controlled;
        int wrong;
        private int judged;
        private int judgedWrong;

        Picks(Register register, Claims claims, Accounts accounts) {
            this.register = register;
            this.claims = claims;
            this.accounts = accounts;
        }

        int leastToGive(Season season) {
            int n = 0;
            for (int b = 0; b < register.n; b++) {
                if (register.isField(b) && season.isClaimed(b) && register.squaresAmong(b, season.fault) > 0) {
                    if (n >= GIVEN_AT_MOST) {
                        return BIG;
                    }
                    torn[n] = b;
                    n++;
                }
            }
            for (int i = 0; i < n; i++) {
                against[i] = notBeside(i, n, season);
            }
            return give(cheapest(n), n);
        }

        private int notBeside(int i, int n, Season season) {
            int bits = 0;
            for (int j = 0; j < n; j++) {
                if (register.meet(torn[i], torn[j]) && areOfTwoFarms(torn[i], torn[j], season)) {
                    bits |= 1 << j;
                }
            }
            return bits;
        }

        private static boolean areOfTwoFarms(int field, int other, Season season) {
            for (int i = 0; i < season.n; i++) {
                for (int j = 0; j < season.n && season.fieldAt(i) == field; j++) {
                    if (season.fieldAt(j) == other && season.farmAt(j) != season.farmAt(i)) {
                        return true;
                    }
                }
            }
            return false;
        }

        private int cheapest(int n) {
            int best = (1 << n) - 1;
            for (int set = 0; set < 1 << n; set++) {
                if (endsAll(set, n) && isLess(set, best, n)) {
                    best = set;
                }
            }
            return best;
        }

        private boolean endsAll(int set, int n) {
            for (int i = 0; i < n; i++) {
                if ((set >> i & 1) == 0 && (against[i] & ~set) != 0) {
                    return false;
                }
            }
            return true;
        }

        private boolean isLess(int set, int other, int n) {
            int a = areaOf(set, n);
            int b = areaOf(other, n);
            if (a != b) {
                return a < b;
            }
            int fields = Integer.compare(Integer.bitCount(set), Integer.bitCount(other));
            return fields != 0 ? fields < 0 : set < other;
        }

        private int areaOf(int set, int n) {
            int area = 0;
            for (int i = 0; i < n; i++) {
                area += (set >> i & 1) * register.measures[torn[i]];
            }
            return area;
        }

        private int give(int set, int n) {
            givenCount = 0;
            for (int i = 0; i < n; i++) {
                if ((set >> i & 1) == 1) {
                    givenFields[givenCount] = torn[i];
                    givenCount++;
                }
            }
            return areaOf(set, n);
        }

        int drawFarms(int land, int year, int wanted) {
            fillPool(land, year);
            int n = Math.min(wanted, poolSize);
            int byRisk = (n + 1) / 2;
            drawnCount = 0;
            for (int i = 0; i < n; i++) {
                takeFromPool(i < byRisk ? riskiest() : lotted());
            }
            return n;
        }

        private void fillPool(int land, int year) {
            Season season = accounts.season(year, register.day);
            poolSize = 0;
            for (int b = 0; b < register.n; b++) {
                if (register.isFarmOf(b, land) && season.latest[b] != NONE) {
                    pool[poolSize] = b;
                    risks[poolSize] = year == 0 ? 0 : accounts.season(year - 1, register.day).errorsOf(b);
                    poolSize++;
                }
            }
        }

        private int riskiest() {
            int best = 0;
            for (int i = 1; i < poolSize; i++) {
                if (risks[i] > risks[best]) {
                    best = i;
                }
            }
            return best;
        }

        private int lotted() {
            lot = lot * 1103515245 + 12345;
            return poolSize == 0 ? 0 : (lot >>> 8) % poolSize;
        }

        private void takeFromPool(int place) {
            if (place >= poolSize || drawnCount >= DRAWN_AT_MOST) {
                return;
            }
            drawnFarms[drawnCount] = pool[place];
            drawnCount++;
            poolSize--;
            for (int i = place; i < poolSize; i++) {
                pool[i] = pool[i + 1];
                risks[i] = risks[i + 1];
            }
        }

        /** Counts the farms controlled in a year, and those of them in error. */
        void judge(int year) {
            Season season = accounts.season(year, register.day);
            controlled = 0;
            wrong = 0;
            for (int b = 0; b < register.n; b++) {
                if (register.isFarm(b) && claims.isControlled(b, year)) {
                    controlled++;
                    wrong += season.errorsOf(b) > 2 ? 1 : 0;
                    if (controlled <= JUDGED_AT_MOST) {
                        judged = controlled;
                        judgedWrong = wrong;
                    }
                }
            }
            if (controlled == 0) {
                judged = 0;
                judgedWrong = 0;
            }
        }

        /** 1: more are wrong than p of 100 makes likely, 2: fewer, 0: neither. */
        int unlike(int p, int w) {
            long bound = w * power(100, judged);
            if (100 * chance(judgedWrong, judged, p) < bound) {
                return 1;
            }
            return 100 * chance(0, judgedWrong, p) < bound ? 2 : 0;
        }

        /** The chance that so many of the judged come by p, as a part of 100 to the power of their number. */
        private long chance(int from, int to, int p) {
            long sum = 0;
            long ways = 1;
            for (int i = 0; i <= judged; i++) {
                if (within(i, from, to)) {
                    sum += ways * power(p, i) * power(100 - p, judged - i);
                }
                ways = ways * (judged - i) / (i + 1);
            }
            return sum;
        }

        private static long power(long base, int times) {
            long product = 1;
            for (int i = 0; i < times; i++) {
                product *= base;
            }
            return product;
        }
    }

    /** The best mix of crops on areas. */
    private static final class Mix {
        private final int[] areas = new int[PLOTS];
        int n;
        final int[] coins = new int[CROPS];
        final int[] chosen = new int[PLOTS];
        int chosenCount;
        private final int[] byNumber = {0, 1, 2, 3, 4, 5, 6, 7};
        private final int[] byWorth = new int[CROPS];
        // while a way is sought
        private final int[] loads = new int[CROPS];
        private final int[] way = new int[PLOTS];
        private int room;
        private int wanted;
        private int best;

        int add(int squares) {
            if (n < PLOTS) {
                areas[n] = squares;
                n++;
            }
            return n;
        }

        int find(int most, int crops) {
            int total = 0;
            int greatest = 0;
            for (int i = 0; i < n; i++) {
                total += areas[i];
                greatest = Math.max(greatest, areas[i]);
            }
            room = total * most / 100;
            wanted = crops;
            int answer = NOT;
            // there are more crops than areas: a crop each is a way, if there is one
            if (greatest <= room && n >= crops) {
                answer = seek(total);
            }
            n = 0;
            return answer;
        }

        private int seek(int total) {
            Arrays.fill(loads, 0);
            sortByWorth();
            chosenCount = n;
            best = NONE;
            seekFrom(0, byWorth, total, 0, 0);
            // of the ways with the most coins the first by areas is the first that this meets
            best--;
            seekFrom(0, byNumber, total, 0, 0);
            return best;
        }

        private void sortByWorth() {
            for (int i = 0; i < CROPS; i++) {
                int at = i;
                while (at > 0 && coins[byWorth[at - 1]] < coins[i]) {
                    byWorth[at] = byWorth[at - 1];
                    at--;
                }
                byWorth[at] = i;
            }
        }

        /** Tries the crops in an order for the areas from one on; at is below PLOTS and grows. */
        private void seekFrom(int at, int[] order, int left, int earned, int used) {
            if (used + n - at < wanted || bound(left, earned) <= best) {
                return;
            }
            if (at >= n || at >= PLOTS) {
                best = earned;
                System.arraycopy(way, 0, chosen, 0, n);
                return;
            }
            int area = areas[at];
            for (int i = 0; i < CROPS; i++) {
                int crop = order[i];
                if (loads[crop] + area <= room && (loads[crop] > 0 || isFirstUnused(i, order))) {
                    int more = loads[crop] == 0 ? 1 : 0;
                    loads[crop] += area;
                    way[at] = crop;
                    seekFrom(at + 1, order, left - area, earned + area * coins[crop], used + more);
                    loads[crop] -= area;
                }
            }
        }

        /** Of unused crops of like worth only the first is tried: the others give no more and come behind it. */
        private boolean isFirstUnused(int place, int[] order) {
            for (int i = 0; i < place; i++) {
                if (loads[order[i]] == 0 && coins[order[i]] == coins[order[place]]) {
                    return false;
                }
            }
            return true;
        }

        /** No way on from here earns more: the squares left, parted at will, go to the dearest crops. */
        private int bound(int left, int earned) {
            int most = earned;
            int rest = left;
            for (int i = 0; i < CROPS && rest > 0; i++) {
                int part = Math.min(rest, room - loads[byWorth[i]]);
                most += part * coins[byWorth[i]];
                rest -= part;
            }
            return rest > 0 ? NONE : most;
        }
    }

    /** The colours of crops, and what was seen of fields. */
    private static final class Colours {
        private static final int UNSEEN = 1000;
        private final int[] table = new int[CROPS * WEEKS];
        int blankSign = -1;
        private final int[][] seen = new int[BODIES][];

        int paint(int crop, int week, int v) {
            int i = crop * WEEKS + week;
            int was = table[i];
            table[i] = v;
            return was;
        }

        int look(int field, int year, Shelves shelves, int shelf, int from) {
            int[] row = seen[field];
            if (row == null) {
                row = new int[YEARS * WEEKS];
                Arrays.fill(row, UNSEEN);
                seen[field] = row;
            }
            int weeks = 0;
            boolean ended = false;
            for (int week = 0; week < WEEKS; week++) {
                ended = ended || !shelves.hasPlace(shelf, (long) from + week);
                int v = ended ? blankSign : (int) shelves.read(shelf, from + week);
                boolean isSeen = !ended && v != blankSign;
                row[year * WEEKS + week] = isSeen ? v : UNSEEN;
                weeks += isSeen ? 1 : 0;
            }
            return weeks;
        }

        int judge(int field, int year, int what) {
            int[] row = seen[field];
            if (row == null) {
                return NOT;
            }
            int least = apart(0, row, year);
            if (least == NONE) {
                return NOT;
            }
            int crop = 0;
            int next = Integer.MAX_VALUE;
            for (int i = 1; i < CROPS; i++) {
                int apart = apart(i, row, year);
                if (apart < least) {
                    next = least;
                    least = apart;
                    crop = i;
                } else {
                    next = Math.min(next, apart);
                }
            }
            return what == 0 ? crop : next - least;
        }

        /** How far a crop is from what was seen; NONE if nothing was. */
        private int apart(int crop, int[] row, int year) {
            int sum = 0;
            int weeks = 0;
            for (int week = 0; week < WEEKS; week++) {
                int v = row[year * WEEKS + week];
                if (v != UNSEEN) {
                    sum += Math.abs(v - table[crop * WEEKS + week]);
                    weeks++;
                }
            }
            return weeks == 0 ? NONE : sum;
        }
    }

    /** What bodies do: each act's body is that of the kind, or of the next kind above that has one. */
    private static final class Acts {
        final int[] kept = new int[KEPT_OF_A_TRACE];
        int ran;
        private int number;
        private int kind;
        private int measure;

        int run(int body, int ofKind, int withMeasure, int act, int x) {
            ran = 0;
            number = body;
            kind = ofKind;
            measure = withMeasure;
            switch (act) {
                case 0:
                    return yields(kind, x);
                case 1:
                    return claims(kind, x);
                case 2:
                    return holds(kind, x);
                default:
                    return tells(kind, x);
            }
        }

        private void began(int body) {
            if (ran < KEPT_OF_A_TRACE) {
                kept[ran] = body;
            }
            ran++;
        }

        // each goes up the kinds, of which there are few; from: the kind where the search begins

        private int yields(int from, int x) {
            switch (from) {
                case FARM:
                    began(20);
                    return yields(BODY, x) + measure;
                case SMALL:
                    began(40);
                    return -yields(FARM, x);
                case HEIR:
                    began(80);
                    return yields(YOUNG, x) ^ 3;
                case YOUNG:
                    return yields(FARM, x);
                default:
                    began(1);
                    return x * 2 - number;
            }
        }

        private int claims(int from, int x) {
            switch (from) {
                case YOUNG:
                    began(30);
                    return claims(FARM, x) * 2;
                case MEADOW:
                    began(60);
                    return claims(FIELD, x) - holds(kind, 2);
                case HEIR:
                    began(81);
                    return claims(YOUNG, x) + yields(YOUNG, x);
                default:
                    began(10);
                    return yields(kind, x) + 1;
            }
        }

        private int holds(int from, int x) {
            switch (from) {
                case FIELD:
                case MEADOW:
                    began(50);
                    return holds(BODY, x) + measure;
                default:
                    began(11);
                    return x ^ number;
            }
        }

        private int tells(int from, int x) {
            switch (from) {
                case SMALL:
                    began(41);
                    return tells(FARM, x) + yields(kind, 1);
                case PERMIT:
                    began(70);
                    return tells(BODY, x + 1);
                default:
                    began(2);
                    return holds(kind, claims(kind, x));
            }
        }
    }

    /** Shelves that hold nothing, a body, or a row. */
    private static final class Shelves {
        final int[] sorts = {NONE, NONE, NONE, NONE, NONE, NONE};
        // the body's number, or the row's length
        final int[] held = new int[SHELVES];
        private final long[] elements = new long[SHELVES * PLACES];

        int empty(int shelf) {
            sorts[shelf] = NONE;
            held[shelf] = 0;
            return 1;
        }

        int hold(int shelf, int body) {
            sorts[shelf] = A_BODY;
            held[shelf] = body;
            return 1;
        }

        int lay(int shelf, int sort, int n) {
            sorts[shelf] = sort;
            held[shelf] = n;
            Arrays.fill(elements, shelf * PLACES, shelf * PLACES + n, 0);
            return 1;
        }

        /** 1, or why a shelf has no row. */
        private int rowOn(int shelf) {
            if (sorts[shelf] == NONE) {
                return NOTHING_THERE;
            }
            return sorts[shelf] == A_BODY ? OTHER_KIND : 1;
        }

        boolean hasPlace(int shelf, long i) {
            return rowOn(shelf) == 1 && 0 <= i && i < held[shelf];
        }

        int write(int shelf, int i, long v) {
            int there = rowOn(shelf);
            if (there != 1) {
                return there;
            }
            if (!hasPlace(shelf, i)) {
                return NO_PLACE;
            }
            elements[shelf * PLACES + i] = lowest(sorts[shelf], v);
            return 1;
        }

        private static long lowest(int sort, long v) {
            switch (sort) {
                case BYTES:
                    return (byte) v;
                case SHORTS:
                    return (short) v;
                case INTS:
                    return (int) v;
                case LONGS:
                    return v;
                default:
                    return v != 0 ? 1 : 0;
            }
        }

        long read(int shelf, int i) {
            return hasPlace(shelf, i) ? elements[shelf * PLACES + i] : Long.MIN_VALUE;
        }

        int copy(int shelf, int i, int other, int j, int n) {
            int there = rowOn(shelf);
            int where = rowOn(other);
            if (there == NOTHING_THERE || where == NOTHING_THERE) {
                return NOTHING_THERE;
            }
            if (there == OTHER_KIND || where == OTHER_KIND || sorts[shelf] != sorts[other]) {
                return OTHER_KIND;
            }
            if (n < 0 || i < 0 || j < 0 || i > held[shelf] - n || j > held[other] - n) {
                return NO_PLACE;
            }
            System.arraycopy(elements, shelf * PLACES + i, elements, other * PLACES + j, n);
            return n;
        }
    }
}
