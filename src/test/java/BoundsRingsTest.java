/** Promises 5 to 8 and 11, and Terms 1 on the grid and rings: each sentence that names a bound, by a test of its own. */
public final class BoundsRingsTest {
    private static final int MIN = Integer.MIN_VALUE, MAX = Integer.MAX_VALUE, BAD = -1, NOT = -2, FULL = -3;
    private static final Checks IT = new Checks("bounds of rings");

    private static final int[][] SOUND = {
        {0, 0, 3, 0, 3, 2, 0, 2},
        {0, 0, 3, 0, 3, 1, 1, 1, 1, 3, 0, 3},
        {0, 0, 6, 0, 6, 4, 4, 4, 4, 2, 2, 2, 2, 4, 0, 4},
        {0, 0, 4, 0, 4, 1, 3, 1, 3, 2, 2, 2, 2, 3, 1, 3, 1, 4, 0, 4},
        {0, 0, 5, 0, 5, 5, 2, 5, 2, 2, 3, 2, 3, 4, 4, 4, 4, 1, 1, 1, 1, 5, 0, 5},
    };
    private static final int[] AREAS = {6, 5, 20, 10, 17};

    public static void main(String[] args) {
        cornersOfTheGrid();
        twelveCorners();
        noneAfterUncorner();
        fourToTwelveEven();
        oddOnesThatClose();
        theFirstAcross();
        noneOfLengthNought();
        noPointInCommon();
        theLastSideToo();
        oneApartIsSound();
        theSignAway();
        leastAndGreatest();
        inIt();
        squaresOfTheGrid();
        kindsOfField();
        orderOfRefusals();
        fullLeavesTheRing();
        IT.end();
    }

    private static AcresPaid with(int... corners) {
        AcresPaid x = new AcresPaid();
        Checks.ring(x, corners);
        return x;
    }

    private static int[] turned(int[] ring, int by) {
        int[] r = new int[ring.length];
        for (int i = 0; i < ring.length; i++) {
            r[i] = ring[(i + 2 * by) % ring.length];
        }
        return r;
    }

    /** The same ring the other way round, its first side across as before. */
    private static int[] backwards(int[] ring) {
        int n = ring.length / 2;
        int[] r = new int[ring.length];
        for (int i = 0; i < n; i++) {
            int from = (1 - i + n) % n;
            r[2 * i] = ring[2 * from];
            r[2 * i + 1] = ring[2 * from + 1];
        }
        return r;
    }

    /** "A corner (x, y 0 .. 24)". */
    private static void cornersOfTheGrid() {
        int[] edges = {MIN, -1, 0, 1, 23, 24, 25, MAX};
        for (int x : edges) {
            for (int y : edges) {
                boolean there = 0 <= x && x <= 24 && 0 <= y && y <= 24;
                AcresPaid g = with(3, 3);
                IT.due("5: corner(" + x + ", " + y + ")", there ? 2 : BAD, g.corner(x, y));
                IT.due("5: so many", there ? 2 : 1, g.count(10));
            }
        }
    }

    /** "BAD, FULL: 12". */
    private static void twelveCorners() {
        AcresPaid x = with(SOUND[4]);
        IT.due("5: twelve", 12, x.count(10));
        IT.due("5: a thirteenth", FULL, x.corner(0, 0));
        IT.due("5: bad ahead of full", BAD, x.corner(0, 25));
        IT.due("5: bad ahead of full", BAD, x.corner(-1, 0));
        IT.due("5: twelve stay", 12, x.count(10));
        IT.due("5: the ring is as it was", 17, x.area());
        AcresPaid eleven = with(turned(SOUND[4], 0));
        eleven.uncorner();
        for (int i = 0; i < 22; i += 2) {
            IT.due("5: how many it has", i / 2 + 1, eleven.corner(SOUND[4][i], SOUND[4][i + 1]));
        }
        IT.due("5: the twelfth comes", 12, eleven.corner(0, 5));
    }

    /** "THE RING is none: how many it had". */
    private static void noneAfterUncorner() {
        for (int n = 0; n <= 12; n++) {
            AcresPaid x = new AcresPaid();
            for (int i = 0; i < n; i++) {
                x.corner(i, i);
            }
            IT.due("6: had " + n, n, x.uncorner());
            IT.due("6: none", 0, x.count(10));
            IT.due("6: none to take", 0, x.uncorner());
            Checks.ring(x, SOUND[0]);
            IT.due("6: a new one", 6, x.area());
        }
    }

    /** "4 to 12 corners (an even number)". */
    private static void fourToTwelveEven() {
        for (int n = 0; n < 4; n++) {
            AcresPaid x = new AcresPaid();
            for (int i = 0; i < n; i++) {
                x.corner(SOUND[0][2 * i], SOUND[0][2 * i + 1]);
            }
            IT.due("7: of " + n + " corners", NOT, x.area());
            IT.due("7: they stay", n, x.count(10));
        }
        for (int i = 0; i < SOUND.length; i++) {
            int n = SOUND[i].length / 2;
            IT.due("7: of " + n + " corners", AREAS[i], with(SOUND[i]).area());
            int[] odd = new int[2 * n - 2];
            System.arraycopy(SOUND[i], 0, odd, 0, odd.length);
            IT.due("7: of " + (n - 1) + " corners", NOT, with(odd).area());
            AcresPaid more = with(SOUND[i]);
            // on the last side, half way to the first corner
            more.corner(0, 1);
            IT.due("7: of one more", n == 12 ? AREAS[i] : NOT, more.area());
        }
    }

    /** "(an even number)": from the middle of the first side on, one more corner goes all its ways, and closes. */
    private static void oddOnesThatClose() {
        for (int i = 0; i < 4; i++) {
            int n = SOUND[i].length;
            int[] odd = new int[n + 2];
            System.arraycopy(SOUND[i], 0, odd, 0, n);
            odd[0] = 1;
            odd[n] = 0;
            odd[n + 1] = 0;
            IT.due("7: of " + (n / 2 + 1) + " corners that close", NOT, with(odd).area());
        }
    }

    /** "sides go across and up or down by turns (the first across)". */
    private static void theFirstAcross() {
        for (int i = 0; i < SOUND.length; i++) {
            int n = SOUND[i].length / 2;
            for (int by = 0; by < n; by++) {
                IT.due("7: turned by " + by, by % 2 == 0 ? AREAS[i] : NOT, with(turned(SOUND[i], by)).area());
            }
        }
        IT.due("7: askew at the first side", NOT, with(0, 0, 3, 1, 3, 3, 0, 3).area());
        IT.due("7: askew at the second side", NOT, with(0, 0, 3, 0, 2, 3, 0, 3).area());
        IT.due("7: askew at the third side", NOT, with(0, 0, 3, 0, 3, 3, 0, 2).area());
        IT.due("7: askew at the last side", NOT, with(0, 0, 3, 0, 3, 3, 1, 3).area());
        IT.due("7: two across, one behind the other", NOT, with(0, 0, 2, 0, 4, 0, 4, 2, 4, 4, 0, 4).area());
        IT.due("7: two up, one behind the other", NOT, with(0, 0, 4, 0, 4, 2, 4, 4, 2, 4, 0, 4).area());
    }

    /** "none is of length 0". */
    private static void noneOfLengthNought() {
        IT.due("7: nothing across", NOT, with(2, 0, 2, 0, 2, 3, 2, 3).area());
        IT.due("7: nothing up", NOT, with(0, 2, 3, 2, 3, 2, 0, 2).area());
        IT.due("7: a point", NOT, with(2, 2, 2, 2, 2, 2, 2, 2).area());
        IT.due("7: the first of six", NOT, with(0, 0, 0, 0, 0, 2, 3, 2, 3, 4, 0, 4).area());
        IT.due("7: the last of six", NOT, with(0, 0, 3, 0, 3, 4, 1, 4, 1, 0, 0, 0).area());
        IT.due("7: one within six", NOT, with(0, 0, 3, 0, 3, 2, 3, 2, 3, 4, 0, 4).area());
        IT.due("7: of length 1 all of them", 1, with(2, 2, 3, 2, 3, 3, 2, 3).area());
    }

    /** "no two sides have a point in common but those that follow one another in their common corner". */
    private static void noPointInCommon() {
        IT.due("7: crossed", NOT, with(0, 2, 4, 2, 4, 4, 2, 4, 2, 0, 0, 0).area());
        IT.due("7: crossed upright by level", NOT, with(2, 0, 4, 0, 4, 2, 0, 2, 0, 4, 2, 4).area());
        IT.due("7: a corner on a level side", NOT, with(0, 0, 6, 0, 6, 4, 4, 4, 4, 0, 2, 0, 2, 4, 0, 4).area());
        IT.due("7: a corner on an upright side", NOT, with(0, 0, 4, 0, 4, 2, 0, 2, 0, 4, 4, 4, 4, 6, 0, 6).area());
        IT.due("7: a corner on a corner", NOT, with(0, 0, 2, 0, 2, 2, 4, 2, 4, 4, 2, 4, 2, 2, 0, 2).area());
        IT.due("7: level sides that lie on one another", NOT, with(0, 0, 4, 0, 4, 2, 2, 2, 2, 0, 1, 0, 1, 3, 0, 3).area());
        IT.due("7: there and back", NOT, with(0, 0, 3, 0, 3, 0, 0, 0).area());
        IT.due("7: up and back", NOT, with(0, 0, 1, 0, 1, 3, 1, 3, 1, 0, 0, 0).area());
        IT.due("7: level sides, end on end", NOT, with(0, 0, 2, 0, 2, 2, 3, 2, 3, 0, 2, 0, 2, 3, 0, 3).area());
        IT.due("7: upright sides, end on end", NOT, with(0, 0, 3, 0, 3, 2, 2, 2, 2, 3, 3, 3, 3, 2, 4, 2, 4, 5, 0, 5).area());
        IT.due("7: twice around", NOT, with(0, 0, 3, 0, 3, 3, 0, 3, 0, 0, 3, 0, 3, 3, 0, 3).area());
    }

    private static void theLastSideToo() {
        IT.due("7: the last crosses the third", NOT, with(2, 0, 4, 0, 4, 2, 0, 2, 0, 4, 2, 4).area());
        IT.due("7: one of the last lies on the second", NOT, with(0, 0, 2, 0, 2, 3, 1, 3, 1, 4, 2, 4, 2, 6, 0, 6, 0, 5, 2, 5, 2, 1, 0, 1).area());
        IT.due("7: the last ends on the first, in the common corner only", 6, with(0, 0, 3, 0, 3, 2, 0, 2).area());
        IT.due("7: the last but one crosses the first", NOT, with(0, 2, 6, 2, 6, 4, 4, 4, 4, 0, 0, 0).area());
        IT.due("7: the last goes over the first corner", NOT, with(2, 2, 4, 2, 4, 4, 0, 4, 0, 0, 2, 0, 2, 3, 1, 3).area());
    }

    private static void oneApartIsSound() {
        IT.due("7: a slit of one", 20, with(0, 0, 7, 0, 7, 3, 4, 3, 4, 2, 3, 2, 3, 3, 0, 3).area());
        IT.due("7: a slit as deep as can be", 18, with(0, 0, 7, 0, 7, 3, 4, 3, 4, 1, 3, 1, 3, 3, 1, 3, 1, 2, 0, 2).area());
        IT.due("7: one beside, not on", 10, with(0, 0, 2, 0, 2, 2, 4, 2, 4, 4, 1, 4, 1, 2, 0, 2).area());
        IT.due("7: level sides on one line, apart", 9, with(0, 0, 5, 0, 5, 2, 3, 2, 3, 1, 2, 1, 2, 2, 0, 2).area());
        IT.due("7: upright sides on one line, apart", 9, with(0, 0, 2, 0, 2, 2, 1, 2, 1, 3, 2, 3, 2, 5, 0, 5).area());
    }

    /** "half of the sum of x y' less x' y, the sign away". */
    private static void theSignAway() {
        for (int i = 0; i < SOUND.length; i++) {
            IT.due("7: the other way round", AREAS[i], with(backwards(SOUND[i])).area());
            int[] aside = SOUND[i].clone();
            for (int j = 0; j < aside.length; j++) {
                aside[j] += 18;
            }
            IT.due("7: far from the first corner", AREAS[i], with(aside).area());
            IT.due("7: that one the other way round", AREAS[i], with(backwards(aside)).area());
        }
    }

    private static void leastAndGreatest() {
        IT.due("7: one square", 1, with(23, 23, 24, 23, 24, 24, 23, 24).area());
        IT.due("7: a row", 24, with(0, 23, 24, 23, 24, 24, 0, 24).area());
        IT.due("7: a column", 24, with(23, 0, 24, 0, 24, 24, 23, 24).area());
        IT.due("7: all of the grid", 576, with(0, 0, 24, 0, 24, 24, 0, 24).area());
        IT.due("7: all of it, the other way round", 576, with(24, 24, 0, 24, 0, 0, 24, 0).area());
        IT.due("7: all but one", 575, with(0, 0, 24, 0, 24, 23, 23, 23, 23, 24, 0, 24).area());
    }

    /** "IN it are the squares inside": as many as AREA says, at their places. */
    private static void inIt() {
        String[][] inside = {
            {"###", "###"},
            {"###", "#..", "#.."},
            {"######", "######", "##..##", "##..##"},
            {"####", "###.", "##..", "#..."},
            {"#####", "#...#", "#.#.#", "#.#.#", "#.###"},
        };
        for (int i = 0; i < SOUND.length; i++) {
            for (int turn = 0; turn < 2; turn++) {
                AcresPaid x = new AcresPaid();
                x.farm(1, 0);
                Checks.ring(x, turn == 0 ? SOUND[i] : backwards(SOUND[i]));
                x.field(0, 0);
                int many = 0;
                for (int y = 0; y < 8; y++) {
                    for (int c = 0; c < 8; c++) {
                        boolean in = y < inside[i].length && c < inside[i][y].length() && inside[i][y].charAt(c) == '#';
                        IT.due("11: ring " + i + " has " + c + ", " + y, in ? 1 : 0, x.has(1, c, y));
                        many += in ? 1 : 0;
                    }
                }
                IT.due("11: as many as AREA says", many, x.ofBody(1, 1));
            }
        }
    }

    /** "squares x 0 .. 23, y 0 .. 23 (576)". */
    private static void squaresOfTheGrid() {
        AcresPaid x = new AcresPaid();
        x.farm(1, 0);
        int all = Checks.field(x, 0, 0, 0, 24, 24);
        int last = Checks.field(x, 0, 23, 23, 24, 24);
        int first = Checks.field(x, 0, 0, 0, 1, 1);
        int[] edges = {MIN, -1, 0, 1, 22, 23, 24, MAX};
        for (int c : edges) {
            for (int y : edges) {
                boolean there = 0 <= c && c <= 23 && 0 <= y && y <= 23;
                IT.due("11: all has " + c + ", " + y, there ? 1 : BAD, x.has(all, c, y));
                IT.due("11: the last has " + c + ", " + y, !there ? BAD : c == 23 && y == 23 ? 1 : 0, x.has(last, c, y));
                IT.due("11: the first has " + c + ", " + y, !there ? BAD : c == 0 && y == 0 ? 1 : 0, x.has(first, c, y));
            }
        }
        IT.due("11: a farm", BAD, x.has(0, 0, 0));
        IT.due("11: none", BAD, x.has(4, 0, 0));
        IT.due("11: -1", BAD, x.has(-1, 0, 0));
        x.giveUp(first);
        IT.due("11: one given up has its squares", 1, x.has(first, 0, 0));
        x.permit(1);
        IT.due("11: a permit", BAD, x.has(4, 0, 0));
    }

    /** "a FIELD (meadow 0), MEADOW (1) of a FARM, and is none then". */
    private static void kindsOfField() {
        int[][] want = {{MIN, BAD}, {-1, BAD}, {0, 4}, {1, 5}, {2, BAD}, {MAX, BAD}};
        for (int[] w : want) {
            AcresPaid x = new AcresPaid();
            x.farm(1, 0);
            Checks.ring(x, SOUND[2]);
            IT.due("8: meadow " + w[0], w[1] == BAD ? BAD : 1, x.field(0, w[0]));
            IT.due("8: its kind", w[1] == BAD ? -2000000000 : w[1], x.ofBody(1, 0));
            IT.due("8: the ring", w[1] == BAD ? 8 : 0, x.count(10));
            IT.due("8: fields", w[1] == BAD ? 0 : 1, x.count(2));
        }
        for (int kind : new int[] {1, 2, 3, 7}) {
            AcresPaid x = new AcresPaid();
            x.farm(kind, 0);
            Checks.ring(x, SOUND[0]);
            IT.due("8: of a farm of kind " + kind, 1, x.field(0, 0));
        }
    }

    /** "BAD; NOT: it is not SOUND; FULL (THE RING stays)". */
    private static void orderOfRefusals() {
        AcresPaid x = new AcresPaid();
        x.farm(1, 0);
        x.body();
        x.permit(3);
        x.corner(0, 0);
        x.corner(3, 0);
        int[][] bad = {{-1, 0}, {1, 0}, {2, 0}, {3, 0}, {MIN, 0}, {MAX, 0}, {0, 2}, {0, -1}};
        for (int[] b : bad) {
            IT.due("8: bad ahead of not", BAD, x.field(b[0], b[1]));
        }
        IT.due("8: not sound", NOT, x.field(0, 0));
        IT.due("8: no body came", 3, x.count(0));
        x.corner(3, 2);
        IT.due("8: not sound yet", NOT, x.field(0, 0));
        x.corner(0, 2);
        IT.due("8: the corners stayed", 6, x.area());
        IT.due("8: sound", 3, x.field(0, 0));
        IT.due("8: of a field", BAD, x.field(3, 0));
    }

    private static void fullLeavesTheRing() {
        AcresPaid x = new AcresPaid();
        x.farm(1, 0);
        for (int i = 1; i < 149; i++) {
            x.body();
        }
        Checks.ring(x, SOUND[1]);
        IT.due("8: the last", 149, x.field(0, 0));
        IT.due("8: not ahead of full", NOT, x.field(0, 0));
        Checks.ring(x, SOUND[2]);
        IT.due("8: full", FULL, x.field(0, 0));
        IT.due("8: full", FULL, x.field(0, 1));
        IT.due("8: bad ahead of full", BAD, x.field(1, 0));
        IT.due("8: the ring stays", 20, x.area());
        IT.due("8: one field", 1, x.count(2));
        IT.due("8: the last field is as it was", 5, x.ofBody(149, 1));
    }
}
