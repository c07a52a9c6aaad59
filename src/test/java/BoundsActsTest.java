/** Promises 44 to 52, and Terms 7: each sentence that names a bound, by a test of its own. */
public final class BoundsActsTest {
    private static final int MIN = Integer.MIN_VALUE, MAX = Integer.MAX_VALUE, BAD = -1;
    private static final int NOTHING = -11, OTHER_KIND = -12, NO_PLACE = -13, NO_SIZE = -14;
    private static final Checks IT = new Checks("bounds of acts");

    public static void main(String[] args) {
        actArguments();
        noTraceThen();
        intsThatWrap();
        theNextKindAbove();
        traceArguments();
        allThatRanAreCounted();
        keepArguments();
        inPlaceOfWhatItHeld();
        rowArguments();
        elementsAreNoughtAtFirst();
        lowestBits();
        booleansAreOneOrNought();
        placesOfRows();
        refusalsInOrder();
        shiftArguments();
        shiftPlaces();
        shiftSorts();
        asTheyAllWereBefore();
        takenArguments();
        takenByKind();
        countArguments();
        IT.end();
    }

    /** A body of each kind, 0 to 7, its number its kind: farms of lands 0, 1, 2 and 3, a field of 6, a meadow of 2, a permit of 9. */
    private static AcresPaid kinds() {
        AcresPaid x = new AcresPaid();
        x.body();
        x.farm(1, 0);
        x.farm(2, 1);
        x.farm(3, 2);
        Checks.field(x, 1, 0, 0, 2, 3);
        Checks.meadow(x, 2, 4, 4, 5, 6);
        x.permit(9);
        x.farm(7, 3);
        return x;
    }

    /** "An ACT (0 .. 3) of a BODY with x. 0, and no TRACE then: no such BODY, ACT". */
    private static void actArguments() {
        for (int body : new int[] {MIN, -1, 0, 7, 8, 150, MAX}) {
            for (int act : new int[] {MIN, -1, 0, 1, 2, 3, 4, MAX}) {
                AcresPaid x = kinds();
                x.act(1, 1, 5);
                boolean there = (body == 0 || body == 7) && act >= 0 && act <= 3;
                int said = x.act(body, act, 1000);
                IT.due("44: something for act(" + body + ", " + act + ")", there ? 1 : 0, said != 0 ? 1 : 0);
                IT.due("52: something ran", there ? 1 : 0, x.count(11) > 0 ? 1 : 0);
                IT.due("45: something is traced", there ? 1 : 0, x.trace(0) > 0 ? 1 : 0);
            }
        }
    }

    private static void noTraceThen() {
        AcresPaid x = kinds();
        x.act(7, 3, 5);
        IT.due("52: ten ran", 10, x.count(11));
        IT.due("44: no such body", 0, x.act(8, 3, 5));
        IT.due("52: none", 0, x.count(11));
        for (int i = 0; i < 24; i++) {
            IT.due("45: none", BAD, x.trace(i));
        }
        x.act(0, 0, 5);
        IT.due("44: no such act", 0, x.act(0, 4, 5));
        IT.due("45: none", BAD, x.trace(0));
        IT.due("44: a body's nought", 0, x.act(0, 0, 0));
        IT.due("45: is traced", 1, x.trace(0));
    }

    /** "x (an int that wraps)". */
    private static void intsThatWrap() {
        AcresPaid x = kinds();
        int[] values = {MIN, MIN + 1, -1, 0, 1, 1 << 30, (1 << 30) - 1, -(1 << 30), MAX - 1, MAX};
        for (int v : values) {
            IT.due("44: body yields " + v, v * 2, x.act(0, 0, v));
            IT.due("44: body claims " + v, v * 2 + 1, x.act(0, 1, v));
            IT.due("44: body holds " + v, v, x.act(0, 2, v));
            IT.due("44: body tells " + v, v * 2 + 1, x.act(0, 3, v));
            IT.due("44: farm yields " + v, v * 2 - 1, x.act(1, 0, v));
            IT.due("44: young claims " + v, (v * 2 - 2 + 1 + 1) * 2, x.act(2, 1, v));
            IT.due("44: small yields " + v, -(v * 2 - 3 + 2), x.act(3, 0, v));
            IT.due("44: small tells " + v, (-(v * 2 - 1) + 1 ^ 3) - (2 - 3 + 2), x.act(3, 3, v));
            IT.due("44: field holds " + v, (v ^ 4) + 6, x.act(4, 2, v));
            IT.due("44: field tells " + v, (v * 2 - 4 + 1 ^ 4) + 6, x.act(4, 3, v));
            IT.due("44: meadow claims " + v, v * 2 - 5 + 1 - ((2 ^ 5) + 2), x.act(5, 1, v));
            IT.due("44: permit tells " + v, (v + 1) * 2 - 6 + 1 ^ 6, x.act(6, 3, v));
            int above = v * 2 - 7 + 3;
            IT.due("44: heir yields " + v, above ^ 3, x.act(7, 0, v));
            IT.due("44: heir claims " + v, ((above ^ 3) + 1) * 2 + above, x.act(7, 1, v));
        }
    }

    /** "the body of its own KIND, or of the next KIND above that has one; super: from the KIND above the body's on". */
    private static void theNextKindAbove() {
        AcresPaid x = kinds();
        int[][] first = {
            // by act and kind: the body that begins
            {1, 20, 20, 40, 1, 1, 1, 80},
            {10, 10, 30, 10, 10, 60, 10, 81},
            {11, 11, 11, 11, 50, 50, 11, 11},
            {2, 2, 2, 41, 2, 2, 70, 2},
        };
        int[][] many = {{1, 2, 2, 3, 1, 1, 1, 3}, {2, 3, 4, 4, 2, 5, 2, 8}, {1, 1, 1, 1, 2, 2, 1, 1}, {4, 5, 6, 10, 5, 8, 5, 10}};
        for (int act = 0; act < 4; act++) {
            for (int kind = 0; kind < 8; kind++) {
                x.act(kind, act, 3);
                IT.due("45: act " + act + " of kind " + kind, first[act][kind], x.trace(0));
                IT.due("52: so many", many[act][kind], x.count(11));
            }
        }
    }

    /** "THE TRACE's i-th body. BAD". */
    private static void traceArguments() {
        AcresPaid x = kinds();
        IT.due("45: no act yet", BAD, x.trace(0));
        x.act(7, 1, 5);
        int[] want = {81, 30, 10, 80, 20, 1, 20, 1};
        for (int i = 0; i < want.length; i++) {
            IT.due("45: trace(" + i + ")", want[i], x.trace(i));
        }
        for (int i : new int[] {MIN, -1, 8, 23, 24, 25, MAX}) {
            IT.due("45: trace(" + i + ")", BAD, x.trace(i));
        }
    }

    /** "numbers of the bodies that ran in the latest act(), as they began". */
    private static void allThatRanAreCounted() {
        AcresPaid x = kinds();
        x.act(7, 3, 5);
        x.act(1, 2, 5);
        IT.due("52: of the latest only", 1, x.count(11));
        IT.due("45: of the latest only", 11, x.trace(0));
        IT.due("45: of the latest only", BAD, x.trace(1));
        x.days(1);
        x.giveUp(4);
        IT.due("52: kept between", 1, x.count(11));
    }

    /** "A SHELF holds nothing (body -1), or a BODY: 1. BAD". */
    private static void keepArguments() {
        for (int shelf : new int[] {MIN, -1, 0, 1, 4, 5, 6, MAX}) {
            for (int body : new int[] {MIN, -2, -1, 0, 7, 8, 150, MAX}) {
                AcresPaid x = kinds();
                boolean good = shelf >= 0 && shelf <= 5 && (body >= -1 && body <= 7);
                IT.due("46: keep(" + shelf + ", " + body + ")", good ? 1 : BAD, x.keep(shelf, body));
                for (int s = 0; s < 6; s++) {
                    int due = good && s == shelf && body >= 0 ? body : NOTHING;
                    IT.due("51: shelf " + s, due, x.taken(s, 0));
                }
            }
        }
        IT.due("46: no bodies", BAD, new AcresPaid().keep(0, 0));
        IT.due("46: nothing of no bodies", 1, new AcresPaid().keep(0, -1));
    }

    private static void inPlaceOfWhatItHeld() {
        AcresPaid x = kinds();
        Checks.bytes(x, 0, 1, 2, 3);
        IT.due("46: refused", BAD, x.keep(0, 8));
        IT.due("46: the row stays", 3, x.element(0, 2));
        IT.due("46: a body", 1, x.keep(0, 3));
        IT.due("48: no row any more", OTHER_KIND, x.put(0, 0, 1));
        IT.due("46: refused", BAD, x.keep(0, -2));
        IT.due("47: refused", BAD, x.row(0, 0, 61));
        IT.due("47: refused", NO_SIZE, x.row(0, 0, -1));
        IT.due("51: the body stays", 3, x.taken(0, 3));
        IT.due("46: nothing", 1, x.keep(0, -1));
        IT.due("51: nothing", NOTHING, x.taken(0, 3));
        IT.due("47: a row", 1, x.row(0, 0, 3));
        IT.due("49: a new one", 0, x.element(0, 2));
    }

    /** "a ROW: of 0 bytes, .. 4 booleans, of 0 .. 60 elements"; "BAD (sort, n above 60); -14". */
    private static void rowArguments() {
        for (int shelf : new int[] {MIN, -1, 0, 5, 6, MAX}) {
            for (int sort : new int[] {MIN, -1, 0, 1, 2, 3, 4, 5, MAX}) {
                for (int n : new int[] {MIN, -61, -2, -1, 0, 1, 59, 60, 61, MAX}) {
                    AcresPaid x = new AcresPaid();
                    boolean bad = shelf < 0 || shelf > 5 || sort < 0 || sort > 4 || n > 60;
                    int due = bad ? BAD : n < 0 ? NO_SIZE : 1;
                    IT.due("47: row(" + shelf + ", " + sort + ", " + n + ")", due, x.row(shelf, sort, n));
                    IT.due("48: the last element", due != 1 ? shelf < 0 || shelf > 5 ? BAD : NOTHING : n == 0 ? NO_PLACE : 1, x.put(shelf, n - 1, 1));
                    IT.due("48: one behind it", due != 1 ? shelf < 0 || shelf > 5 ? BAD : NOTHING : NO_PLACE, x.put(shelf, n, 1));
                }
            }
        }
    }

    /** "0 at first (false)". */
    private static void elementsAreNoughtAtFirst() {
        for (int sort = 0; sort < 5; sort++) {
            AcresPaid x = new AcresPaid();
            x.row(5, sort, 60);
            for (int i = 0; i < 60; i++) {
                IT.due("47: at first", 0, x.element(5, i));
                IT.due("48: put", 1, x.put(5, i, -1));
            }
            for (int i = 0; i < 60; i++) {
                IT.due("49: as put", sort == 4 ? 1 : -1, x.element(5, i));
            }
            x.row(4, sort, 60);
            x.row(5, sort, 59);
            x.row(5, (sort + 1) % 5, 60);
            for (int i = 0; i < 60; i++) {
                IT.due("47: a new row", 0, x.element(5, i));
                IT.due("47: the row beside it", 0, x.element(4, i));
            }
        }
    }

    /** "what is put in keeps its lowest bits". */
    private static void lowestBits() {
        long[] values = {0, 1, -1, 126, 127, 128, 129, 254, 255, 256, 257, -127, -128, -129, -256, -257, 32766, 32767, 32768, 65535, 65536, -32768, -32769,
            (1L << 31) - 1, 1L << 31, (1L << 32) - 1, 1L << 32, (1L << 32) + 1, -(1L << 31), -(1L << 31) - 1, Long.MAX_VALUE, Long.MIN_VALUE + 1};
        for (int sort = 0; sort < 4; sort++) {
            AcresPaid x = new AcresPaid();
            x.row(0, sort, 3);
            x.put(0, 0, 5);
            x.put(0, 2, 6);
            for (long v : values) {
                long[] want = {(byte) v, (short) v, (int) v, v};
                IT.due("48: put " + v, 1, x.put(0, 1, v));
                IT.due("49: of sort " + sort + " " + v, want[sort], x.element(0, 1));
            }
            IT.due("49: the one ahead", 5, x.element(0, 0));
            IT.due("49: the one behind", 6, x.element(0, 2));
        }
        AcresPaid x = new AcresPaid();
        x.row(0, 3, 1);
        x.put(0, 0, Long.MIN_VALUE);
        IT.due("49: a long's least", Long.MIN_VALUE, x.element(0, 0));
    }

    /** "(a boolean: whether it is not 0; 1 or 0)". */
    private static void booleansAreOneOrNought() {
        AcresPaid x = new AcresPaid();
        x.row(0, 4, 1);
        long[] values = {1, 0, -1, 2, 256, 65536, 1L << 32, Long.MIN_VALUE, Long.MAX_VALUE, 0};
        for (long v : values) {
            x.put(0, 0, v);
            IT.due("49: a boolean of " + v, v != 0 ? 1 : 0, x.element(0, 0));
        }
    }

    /** "-13 a place that is not there". */
    private static void placesOfRows() {
        for (int n : new int[] {0, 1, 2, 59, 60}) {
            for (int i : new int[] {MIN, -60, -1, 0, n - 1, n, n + 1, 60, 61, MAX}) {
                AcresPaid x = new AcresPaid();
                x.row(0, 2, 60);
                x.row(1, 2, n);
                x.row(2, 2, 60);
                boolean there = 0 <= i && i < n;
                IT.due("48: put at " + i + " of " + n, there ? 1 : NO_PLACE, x.put(1, i, 8));
                IT.due("49: element " + i + " of " + n, there ? 8 : Long.MIN_VALUE, x.element(1, i));
                IT.due("49: the row ahead", 0, x.element(0, 59));
                IT.due("49: the row behind", 0, x.element(2, 0));
            }
        }
    }

    /** "BAD, -11, -12, -13"; "Long.MIN_VALUE: BAD, -11 to -13". */
    private static void refusalsInOrder() {
        AcresPaid x = kinds();
        x.keep(1, 0);
        x.row(2, 3, 2);
        for (int i : new int[] {MIN, -1, 0, 60, MAX}) {
            IT.due("48: shelf -1", BAD, x.put(-1, i, 1));
            IT.due("48: shelf 6", BAD, x.put(6, i, 1));
            IT.due("48: nothing", NOTHING, x.put(0, i, 1));
            IT.due("48: a body", OTHER_KIND, x.put(1, i, 1));
            IT.due("49: shelf -1", Long.MIN_VALUE, x.element(-1, i));
            IT.due("49: shelf 6", Long.MIN_VALUE, x.element(6, i));
            IT.due("49: nothing", Long.MIN_VALUE, x.element(0, i));
            IT.due("49: a body", Long.MIN_VALUE, x.element(1, i));
        }
        IT.due("48: no place", NO_PLACE, x.put(2, 2, 1));
        IT.due("49: no place", Long.MIN_VALUE, x.element(2, 2));
        for (int shelf : new int[] {MIN, MAX}) {
            IT.due("48: shelf " + shelf, BAD, x.put(shelf, 0, 1));
            IT.due("49: shelf " + shelf, Long.MIN_VALUE, x.element(shelf, 0));
        }
        IT.due("48: shelf 5", NOTHING, x.put(5, 0, 1));
        IT.due("51: refused puts change nothing", 0, x.taken(1, 0));
    }

    private static void shiftArguments() {
        AcresPaid x = kinds();
        x.keep(1, 0);
        Checks.bytes(x, 2, 1, 2);
        for (int shelf : new int[] {MIN, -1, 6, MAX}) {
            IT.due("50: shelf " + shelf, BAD, x.shift(shelf, 0, 2, 0, 1));
            IT.due("50: other " + shelf, BAD, x.shift(2, 0, shelf, 0, 1));
            IT.due("50: bad ahead of -11", BAD, x.shift(shelf, 0, 0, 0, 1));
            IT.due("50: bad ahead of -11", BAD, x.shift(0, 0, shelf, 0, 1));
        }
        IT.due("50: nothing", NOTHING, x.shift(0, 0, 2, 0, 1));
        IT.due("50: nothing there", NOTHING, x.shift(2, 0, 0, 0, 1));
        IT.due("50: nothing either way", NOTHING, x.shift(0, 0, 5, 0, 1));
        IT.due("50: nothing to itself", NOTHING, x.shift(0, 0, 0, 0, 0));
        IT.due("50: -11 ahead of -12", NOTHING, x.shift(1, 0, 0, 0, 1));
        IT.due("50: -11 ahead of -12", NOTHING, x.shift(0, 0, 1, 0, 1));
        IT.due("50: -11 ahead of -13", NOTHING, x.shift(2, 9, 0, 9, -1));
        IT.due("50: from a body", OTHER_KIND, x.shift(1, 0, 2, 0, 1));
        IT.due("50: to a body", OTHER_KIND, x.shift(2, 0, 1, 0, 1));
        IT.due("50: body to body", OTHER_KIND, x.shift(1, 0, 1, 0, 0));
        IT.due("50: -12 ahead of -13", OTHER_KIND, x.shift(1, 9, 2, 9, -1));
        IT.due("50: the row is as it was", 1, x.element(2, 0));
    }

    /** "-13 (n below 0, too)". */
    private static void shiftPlaces() {
        int[] edges = {MIN, -1, 0, 1, 2, 3, 4, 5, 6, 60, MAX};
        for (int i : edges) {
            for (int j : edges) {
                for (int n : edges) {
                    AcresPaid x = new AcresPaid();
                    Checks.bytes(x, 0, 1, 2, 3, 4, 5);
                    Checks.bytes(x, 1, 6, 7, 8);
                    boolean there = n >= 0 && i >= 0 && j >= 0 && (long) i + n <= 5 && (long) j + n <= 3;
                    IT.due("50: " + n + " from " + i + " to " + j, there ? n : NO_PLACE, x.shift(0, i, 1, j, n));
                    for (int p = 0; p < 3; p++) {
                        int due = there && p >= j && p < j + n ? i + p - j + 1 : 6 + p;
                        IT.due("50: element " + p, due, x.element(1, p));
                    }
                    IT.due("50: the first row stays", 5, x.element(0, 4));
                }
            }
        }
        AcresPaid x = new AcresPaid();
        x.row(0, 0, 60);
        x.put(0, 59, 9);
        x.row(5, 0, 60);
        IT.due("50: sixty", 60, x.shift(0, 0, 5, 0, 60));
        IT.due("50: the last of them", 9, x.element(5, 59));
        IT.due("50: sixty-one", NO_PLACE, x.shift(0, 0, 5, 0, 61));
        x.row(1, 0, 0);
        IT.due("50: none of none", 0, x.shift(1, 0, 1, 0, 0));
        IT.due("50: one of none", NO_PLACE, x.shift(1, 0, 1, 0, 1));
        IT.due("50: none from the end", 0, x.shift(0, 60, 1, 0, 0));
        IT.due("50: none from behind the end", NO_PLACE, x.shift(0, 61, 1, 0, 0));
        IT.due("50: none to behind the end", NO_PLACE, x.shift(0, 0, 1, 1, 0));
    }

    /** "-12 (.. of unlike sorts)". */
    private static void shiftSorts() {
        for (int a = 0; a < 5; a++) {
            for (int b = 0; b < 5; b++) {
                AcresPaid x = new AcresPaid();
                x.row(0, a, 2);
                x.row(1, b, 2);
                x.put(0, 1, 1);
                IT.due("50: sort " + a + " to " + b, a == b ? 1 : OTHER_KIND, x.shift(0, 1, 1, 0, 1));
                IT.due("50: what came", a == b ? 1 : 0, x.element(1, 0));
                IT.due("50: none of them", a == b ? 0 : OTHER_KIND, x.shift(0, 0, 1, 0, 0));
                IT.due("50: -12 ahead of -13", a == b ? NO_PLACE : OTHER_KIND, x.shift(0, 0, 1, 0, 3));
            }
        }
    }

    /** "to another one (or the same) .., as they all were before". */
    private static void asTheyAllWereBefore() {
        for (int i = 0; i <= 5; i++) {
            for (int j = 0; j <= 5; j++) {
                for (int n = 0; i + n <= 5 && j + n <= 5; n++) {
                    AcresPaid x = new AcresPaid();
                    Checks.bytes(x, 3, 1, 2, 3, 4, 5);
                    IT.due("50: in the same", n, x.shift(3, i, 3, j, n));
                    for (int p = 0; p < 5; p++) {
                        IT.due("50: " + n + " from " + i + " to " + j, p >= j && p < j + n ? i + p - j + 1 : p + 1, x.element(3, p));
                    }
                }
            }
        }
    }

    /** "taken for a BODY of KIND k (0 .. 7) ..: its KIND. BAD, -11, -12". */
    private static void takenArguments() {
        AcresPaid x = kinds();
        x.keep(0, 0);
        x.row(1, 0, 1);
        for (int k : new int[] {MIN, -1, 0, 7, 8, MAX}) {
            boolean good = k == 0 || k == 7;
            IT.due("51: a body for " + k, k == 0 ? 0 : good ? OTHER_KIND : BAD, x.taken(0, k));
            IT.due("51: a row for " + k, good ? OTHER_KIND : BAD, x.taken(1, k));
            IT.due("51: nothing for " + k, good ? NOTHING : BAD, x.taken(2, k));
            IT.due("51: shelf 5 for " + k, good ? NOTHING : BAD, x.taken(5, k));
            for (int shelf : new int[] {MIN, -1, 6, MAX}) {
                IT.due("51: shelf " + shelf + " for " + k, BAD, x.taken(shelf, k));
            }
        }
        x.row(1, 0, 0);
        IT.due("51: an empty row", OTHER_KIND, x.taken(1, 0));
    }

    /** "or under it". */
    private static void takenByKind() {
        boolean[][] under = new boolean[8][8];
        int[][] above = {{0}, {1, 0}, {2, 1, 0}, {3, 1, 0}, {4, 0}, {5, 4, 0}, {6, 0}, {7, 2, 1, 0}};
        for (int kind = 0; kind < 8; kind++) {
            for (int a : above[kind]) {
                under[kind][a] = true;
            }
        }
        for (int kind = 0; kind < 8; kind++) {
            AcresPaid x = kinds();
            x.keep(5, kind);
            for (int k = 0; k < 8; k++) {
                IT.due("51: kind " + kind + " for " + k, under[kind][k] ? kind : OTHER_KIND, x.taken(5, k));
            }
        }
    }

    /** "How many: 0 BODIES .. 11 ..; BAD". */
    private static void countArguments() {
        AcresPaid x = kinds();
        x.farm(1, 1);
        int[] before = {9, 5, 2, 1, 0, 0, 0, 0, 0, 0, 0, 0};
        for (int what = -1; what <= 12; what++) {
            IT.due("52: count(" + what + ")", what < 0 || what > 11 ? BAD : before[what], x.count(what));
        }
        IT.due("52: MIN", BAD, x.count(MIN));
        IT.due("52: MAX", BAD, x.count(MAX));
        x.claim(1, 4, 0);
        x.handOver(6, 1, 0);
        x.control(1, 4, 0, 0);
        x.days(2);
        Checks.text(x, 0, 0, "1");
        x.feed(2, 0);
        x.corner(0, 0);
        x.act(0, 3, 0);
        int[] then = {9, 5, 2, 1, 1, 1, 1, 2, 1, 2, 1, 4};
        for (int what = 0; what <= 11; what++) {
            IT.due("52: count(" + what + ")", then[what], x.count(what));
        }
        x.giveUp(4);
        IT.due("52: one given up is a field still", 2, x.count(2));
        IT.due("52: its claim is a claim still", 1, x.count(4));
    }
}
