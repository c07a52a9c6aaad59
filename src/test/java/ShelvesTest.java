/** Promises 44 to 52: acts, traces, shelves, counts. */
public final class ShelvesTest {
    private static final int MIN = Integer.MIN_VALUE, MAX = Integer.MAX_VALUE;
    private static final Checks IT = new Checks("acts and shelves");

    public static void main(String[] args) {
        promise44and45();
        refusedActs();
        promise46();
        promise47();
        promise48and49();
        promise50();
        promise51();
        promise52();
        IT.end();
    }

    private static void trace(AcresPaid x, int... want) {
        for (int i = 0; i < want.length; i++) {
            IT.due("45: trace " + i, want[i], x.trace(i));
        }
        IT.due("45: no more", -1, x.trace(want.length));
        IT.due("52: bodies that ran", want.length, x.count(11));
    }

    private static void promise44and45() {
        AcresPaid x = new AcresPaid();
        x.farm(1, 0);
        x.body();
        x.farm(1, 3);
        x.farm(2, 3);
        x.farm(3, 3);
        Checks.field(x, 0, 0, 0, 2, 2);
        Checks.meadow(x, 0, 0, 0, 2, 3);
        x.permit(9);
        x.farm(7, 3);
        int[][] acts = {
            // body, act, x, answer, then the trace
            {1, 0, 10, 19, 1},
            {1, 1, 10, 20, 10, 1},
            {1, 2, 10, 11, 11},
            {1, 3, 10, 21, 2, 10, 1, 11},
            {2, 0, 10, 21, 20, 1},
            {2, 1, 10, 22, 10, 20, 1},
            {2, 2, 10, 8, 11},
            {2, 3, 10, 20, 2, 10, 20, 1, 11},
            {3, 0, 10, 20, 20, 1},
            {3, 1, 10, 42, 30, 10, 20, 1},
            {3, 2, 10, 9, 11},
            {3, 3, 10, 41, 2, 30, 10, 20, 1, 11},
            {4, 0, 10, -19, 40, 20, 1},
            {4, 1, 10, -18, 10, 40, 20, 1},
            {4, 2, 10, 14, 11},
            {4, 3, 10, (-18 ^ 4) - 1, 41, 2, 10, 40, 20, 1, 11, 40, 20, 1},
            {5, 0, 10, 15, 1},
            {5, 1, 10, 16, 10, 1},
            {5, 2, 10, 19, 50, 11},
            {5, 3, 10, 25, 2, 10, 1, 50, 11},
            {6, 0, 10, 14, 1},
            {6, 1, 10, 5, 60, 10, 1, 50, 11},
            {6, 2, 10, 18, 50, 11},
            {6, 3, 10, 9, 2, 60, 10, 1, 50, 11, 50, 11},
            {7, 0, 10, 13, 1},
            {7, 1, 10, 14, 10, 1},
            {7, 2, 10, 13, 11},
            {7, 3, 10, 23, 70, 2, 10, 1, 11},
            {8, 0, 10, 12, 80, 20, 1},
            {8, 1, 10, 41, 81, 30, 10, 80, 20, 1, 20, 1},
            {8, 2, 10, 2, 11},
            {8, 3, 10, 33, 2, 81, 30, 10, 80, 20, 1, 20, 1, 11},
            {1, 0, MAX, -3, 1},
            {1, 0, MIN, -1, 1},
            {7, 3, MAX, 7 ^ -6, 70, 2, 10, 1, 11},
        };
        for (int[] a : acts) {
            IT.due("44: act(" + a[0] + ", " + a[1] + ", " + a[2] + ")", a[3], x.act(a[0], a[1], a[2]));
            int[] want = new int[a.length - 4];
            System.arraycopy(a, 4, want, 0, want.length);
            trace(x, want);
        }
        IT.due("45: -1", -1, x.trace(-1));
        IT.due("45: 24", -1, x.trace(24));
    }

    private static void refusedActs() {
        AcresPaid x = new AcresPaid();
        x.body();
        int[][] bad = {{1, 0}, {-1, 0}, {0, 4}, {0, -1}, {MIN, MAX}};
        for (int[] b : bad) {
            x.act(0, 3, 5);
            IT.due("44: no such body, act", 0, x.act(b[0], b[1], 5));
            trace(x);
        }
    }

    private static void promise46() {
        AcresPaid x = new AcresPaid();
        x.body();
        IT.due("46: shelf -1", -1, x.keep(-1, 0));
        IT.due("46: shelf 6", -1, x.keep(6, 0));
        IT.due("46: no body", -1, x.keep(0, 1));
        IT.due("46: body -2", -1, x.keep(0, -2));
        IT.due("46: a body", 1, x.keep(5, 0));
        IT.due("46: is there", 0, x.taken(5, 0));
        IT.due("46: nothing", 1, x.keep(5, -1));
        IT.due("46: is there no more", -11, x.taken(5, 0));
        IT.due("46: nothing in place of nothing", 1, x.keep(5, -1));
        x.row(5, 0, 3);
        x.keep(5, 0);
        IT.due("46: in place of a row", -12, x.put(5, 0, 1));
    }

    private static void promise47() {
        AcresPaid x = new AcresPaid();
        IT.due("47: shelf -1", -1, x.row(-1, 0, 0));
        IT.due("47: shelf 6", -1, x.row(6, 0, 0));
        IT.due("47: sort -1", -1, x.row(0, -1, 0));
        IT.due("47: sort 5", -1, x.row(0, 5, 0));
        IT.due("47: 61", -1, x.row(0, 0, 61));
        IT.due("47: -1", -14, x.row(0, 0, -1));
        IT.due("47: MIN", -14, x.row(0, 4, MIN));
        IT.due("47: bad ahead of -14", -1, x.row(0, 5, -1));
        IT.due("47: refused calls change nothing", -11, x.put(0, 0, 0));
        IT.due("47: of none", 1, x.row(0, 0, 0));
        IT.due("47: no place", -13, x.put(0, 0, 0));
        IT.due("47: of 60", 1, x.row(0, 3, 60));
        x.put(0, 59, 8);
        IT.due("47: the last", 8, x.element(0, 59));
        IT.due("47: anew", 1, x.row(0, 3, 60));
        IT.due("47: 0 at first", 0, x.element(0, 59));
        x.put(0, 59, 8);
        x.row(0, 3, 10);
        x.row(0, 3, 60);
        IT.due("47: 0 at first behind a shorter one", 0, x.element(0, 59));
    }

    private static void promise48and49() {
        AcresPaid x = new AcresPaid();
        x.body();
        long min = Long.MIN_VALUE, max = Long.MAX_VALUE;
        IT.due("48: shelf -1", -1, x.put(-1, 0, 0));
        IT.due("48: shelf 6", -1, x.put(6, 0, 0));
        IT.due("48: nothing", -11, x.put(0, 0, 0));
        IT.due("49: shelf -1", min, x.element(-1, 0));
        IT.due("49: shelf 6", min, x.element(6, 0));
        IT.due("49: nothing", min, x.element(0, 0));
        x.keep(0, 0);
        IT.due("48: a body", -12, x.put(0, -1, 0));
        IT.due("49: a body", min, x.element(0, 0));
        long[] values = {0, 1, -1, 127, 128, 255, 256, 32767, 32768, 65536, 1L << 31, 1L << 32, min, max};
        for (int sort = 0; sort < 5; sort++) {
            x.row(1, sort, 2);
            IT.due("48: place -1", -13, x.put(1, -1, 0));
            IT.due("48: place 2", -13, x.put(1, 2, 0));
            IT.due("48: place MAX", -13, x.put(1, MAX, 0));
            IT.due("49: place -1", min, x.element(1, -1));
            IT.due("49: place 2", min, x.element(1, 2));
            for (long v : values) {
                long[] want = {(byte) v, (short) v, (int) v, v, v == 0 ? 0 : 1};
                IT.due("48: put " + v, 1, x.put(1, 1, v));
                IT.due("49: sort " + sort + " of " + v, want[sort], x.element(1, 1));
                IT.due("49: its neighbour", 0, x.element(1, 0));
            }
        }
    }

    private static void row(AcresPaid x, int shelf, long... want) {
        for (int i = 0; i < want.length; i++) {
            IT.due("50: element " + i, want[i], x.element(shelf, i));
        }
    }

    private static void promise50() {
        AcresPaid x = new AcresPaid();
        x.body();
        Checks.bytes(x, 0, 1, 2, 3, 4, 5);
        Checks.bytes(x, 1, 9, 9, 9);
        IT.due("50: shelf 6", -1, x.shift(6, 0, 0, 0, 1));
        IT.due("50: other -1", -1, x.shift(0, 0, -1, 0, 1));
        IT.due("50: nothing", -11, x.shift(2, 0, 0, 0, 1));
        IT.due("50: nothing there", -11, x.shift(0, 0, 2, 0, 1));
        x.keep(3, 0);
        IT.due("50: nothing ahead of a body", -11, x.shift(3, 0, 2, 0, 1));
        IT.due("50: a body", -12, x.shift(3, 0, 0, 0, 1));
        IT.due("50: to a body", -12, x.shift(0, 0, 3, 0, 1));
        IT.due("50: a body to itself", -12, x.shift(3, 0, 3, 0, 0));
        x.row(4, 1, 5);
        IT.due("50: of unlike sorts", -12, x.shift(0, 0, 4, 0, -1));
        int[][] places = {{-1, 0, 1}, {0, -1, 1}, {0, 0, -1}, {0, 0, 4}, {0, 3, 1}, {5, 0, 1}, {3, 0, 3}, {6, 0, 0}, {0, 4, 0}, {MAX, 0, MAX},
            {0, MAX, MAX}, {MIN, 0, MIN}, {1, 1, MAX}, {0, 0, MIN}};
        for (int[] p : places) {
            IT.due("50: no such place", -13, x.shift(0, p[0], 1, p[1], p[2]));
        }
        row(x, 1, 9, 9, 9);
        IT.due("50: none, from the end to the end", 0, x.shift(0, 5, 1, 3, 0));
        IT.due("50: two", 2, x.shift(0, 3, 1, 1, 2));
        row(x, 1, 9, 4, 5);
        IT.due("50: up in the same", 4, x.shift(0, 0, 0, 1, 4));
        row(x, 0, 1, 1, 2, 3, 4);
        IT.due("50: down in the same", 3, x.shift(0, 2, 0, 0, 3));
        row(x, 0, 2, 3, 4, 3, 4);
    }

    private static void promise51() {
        AcresPaid x = new AcresPaid();
        x.body();
        x.farm(1, 0);
        x.farm(2, 0);
        x.farm(3, 0);
        Checks.field(x, 1, 0, 0, 1, 1);
        Checks.meadow(x, 1, 0, 0, 1, 1);
        x.permit(1);
        x.farm(7, 0);
        String[] above = {"0", "01", "012", "013", "04", "045", "06", "0127"};
        IT.due("51: nothing", -11, x.taken(0, 0));
        for (int kind = 0; kind < 8; kind++) {
            x.keep(0, kind);
            for (int k = 0; k < 8; k++) {
                int want = above[kind].indexOf('0' + k) >= 0 ? kind : -12;
                IT.due("51: kind " + kind + " for " + k, want, x.taken(0, k));
            }
            IT.due("51: kind 8", -1, x.taken(0, 8));
            IT.due("51: kind -1", -1, x.taken(0, -1));
        }
        IT.due("51: shelf 6", -1, x.taken(6, 0));
        IT.due("51: shelf -1", -1, x.taken(-1, 0));
        x.row(0, 0, 4);
        IT.due("51: a row", -12, x.taken(0, 0));
    }

    private static void promise52() {
        AcresPaid x = new AcresPaid();
        x.body();
        x.farm(1, 0);
        x.farm(7, 0);
        Checks.field(x, 1, 0, 0, 1, 1);
        Checks.meadow(x, 1, 0, 0, 1, 1);
        Checks.field(x, 1, 0, 0, 1, 1);
        x.permit(1);
        x.claim(1, 3, 0);
        x.handOver(6, 1, 0);
        x.handOver(6, 1, 0);
        x.control(1, 3, 0, 0);
        x.days(9);
        Checks.text(x, 0, 0, "1");
        Checks.text(x, 0, 0, "1");
        Checks.tape(x, "1+1");
        Checks.ring(x, 0, 0, 1, 1);
        x.act(0, 3, 0);
        int[] want = {7, 2, 3, 1, 1, 2, 1, 9, 2, 3, 2, 4};
        for (int what = 0; what < want.length; what++) {
            IT.due("52: count(" + what + ")", want[what], x.count(what));
        }
        IT.due("52: 12", -1, x.count(12));
        IT.due("52: -1", -1, x.count(-1));
    }
}
