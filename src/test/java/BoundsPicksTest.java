/** Promises 33 to 43, and Terms 6: each sentence that names a bound, by a test of its own. */
public final class BoundsPicksTest {
    private static final int MIN = Integer.MIN_VALUE, MAX = Integer.MAX_VALUE, BAD = -1, NOT = -2, FULL = -3, BIG = -4;
    private static final Checks IT = new Checks("bounds of picks");

    public static void main(String[] args) {
        leastYears();
        leastOfNone();
        overlapOfOtherFarms();
        leastAreaTogether();
        thenFewestFields();
        thenLeastAsBits();
        tenOrBig();
        givenByTheLatest();
        leastAsKnownToday();
        drawArguments();
        allIfNoMore();
        halfUpByRisk();
        greatestRiskFirst();
        noRiskOfYearNought();
        lotsAnInt();
        lotsByNumbers();
        refusedDrawsMoveNoLot();
        drawnByTheLatest();
        onlyClaimsThatCount();
        rateArguments();
        aboveTwo();
        controlledOfAllLands();
        lessThanW();
        atMostEight();
        noneControlled();
        plotsOfSquares();
        worths();
        mixArguments();
        noCropAboveItsShare();
        atLeastSoManyCrops();
        theMostCoins();
        theFirstByAreas();
        areasAreNoneThen();
        mixedByTheLatest();
        triedArguments();
        moreAndFewer();
        IT.end();
    }

    private static AcresPaid farms(int n) {
        AcresPaid x = new AcresPaid();
        for (int i = 0; i < n; i++) {
            x.farm(1, 0);
        }
        return x;
    }

    private static int claimed(AcresPaid x, int farm, int x0, int y0, int x1, int y1) {
        int field = Checks.field(x, farm, x0, y0, x1, y1);
        x.claim(farm, field, 0);
        return field;
    }

    private static void least(AcresPaid x, int area, int... fields) {
        IT.due("33: area together", area, x.least(0));
        given(x, fields);
    }

    private static void given(AcresPaid x, int... fields) {
        for (int i = 0; i < fields.length; i++) {
            IT.due("34: given(" + i + ")", fields[i], x.given(i));
        }
        IT.due("34: no more", BAD, x.given(fields.length));
        IT.due("34: -1", BAD, x.given(-1));
        IT.due("34: MIN", BAD, x.given(MIN));
        IT.due("34: MAX", BAD, x.given(MAX));
    }

    private static void leastYears() {
        AcresPaid x = farms(2);
        claimed(x, 0, 0, 0, 2, 2);
        int b = claimed(x, 1, 0, 0, 1, 1);
        for (int year : new int[] {MIN, -1, 0, 1, 9, 10, MAX}) {
            int due = year == 0 ? 1 : year == 1 || year == 9 ? 0 : BAD;
            IT.due("33: year " + year, due, x.least(year));
            least(x, 1, b);
        }
    }

    private static void leastOfNone() {
        AcresPaid x = farms(2);
        given(x);
        least(x, 0);
        claimed(x, 0, 0, 0, 2, 2);
        least(x, 0);
        claimed(x, 1, 2, 0, 4, 2);
        claimed(x, 1, 0, 2, 2, 4);
        // side by side
        least(x, 0);
        Checks.field(x, 1, 0, 0, 2, 2);
        // not claimed
        least(x, 0);
    }

    /** "FIELDS claimed in a YEAR that OVERLAP with those of other FARMS". */
    private static void overlapOfOtherFarms() {
        AcresPaid x = farms(3);
        int a = claimed(x, 0, 0, 0, 3, 1);
        claimed(x, 0, 2, 0, 5, 1);
        least(x, 0);
        int c = claimed(x, 1, 0, 0, 1, 2);
        least(x, 2, c);
        x.handOver(a, 2, 0);
        x.claim(2, a, 0);
        // claimed by two farms: none of its squares is paid as long as it is claimed
        least(x, 3, a);
        x.giveUp(a);
        least(x, 0);
        // fields told behind two that meet in the last row don't meet by that
        AcresPaid y = farms(2);
        Checks.field(y, 0, 0, 23, 24, 24);
        claimed(y, 0, 0, 0, 2, 1);
        Checks.field(y, 1, 0, 23, 24, 24);
        claimed(y, 1, 5, 5, 7, 6);
        int e = claimed(y, 1, 0, 0, 1, 1);
        int f = claimed(y, 0, 5, 5, 6, 6);
        least(y, 2, e, f);
    }

    /** "the set with the least AREA together that must be given up so that no square is in FAULT". */
    private static void leastAreaTogether() {
        AcresPaid x = farms(3);
        claimed(x, 0, 0, 0, 4, 1);
        int b = claimed(x, 1, 3, 0, 6, 1);
        least(x, 3, b);
        claimed(x, 2, 5, 0, 6, 1);
        least(x, 3, b);
        claimed(x, 2, 4, 0, 5, 1);
        least(x, 3, b);
        int e = claimed(x, 1, 0, 0, 1, 1);
        least(x, 4, b, e);
        int g = claimed(x, 2, 0, 0, 1, 3);
        // b of 3, e of 1 and g of 3; a of 4, c, d and e of 1 would do as well, but are more fields
        least(x, 7, b, e, g);
        x.giveUp(g);
        least(x, 4, b, e);
        // out or not: AREA is of all its squares
        x.out(300, 300, 0);
        least(x, 4, b, e);
    }

    /** "of several with the fewest FIELDS". */
    private static void thenFewestFields() {
        AcresPaid x = farms(2);
        claimed(x, 0, 0, 0, 1, 1);
        claimed(x, 0, 1, 0, 2, 1);
        int c = claimed(x, 1, 0, 0, 2, 1);
        least(x, 2, c);
        AcresPaid y = farms(2);
        int a = claimed(y, 1, 0, 0, 2, 1);
        claimed(y, 0, 0, 0, 1, 1);
        claimed(y, 0, 1, 0, 2, 1);
        least(y, 2, a);
        AcresPaid z = farms(2);
        claimed(z, 1, 0, 0, 3, 1);
        int b = claimed(z, 0, 0, 0, 1, 1);
        c = claimed(z, 0, 1, 0, 2, 1);
        // less area goes ahead of fewer fields
        least(z, 2, b, c);
    }

    /** "of several the least as bits of their places (by numbers)". */
    private static void thenLeastAsBits() {
        AcresPaid x = farms(2);
        int a = claimed(x, 0, 0, 0, 1, 1);
        claimed(x, 1, 0, 0, 1, 1);
        least(x, 1, a);
        AcresPaid y = farms(2);
        a = claimed(y, 0, 0, 0, 1, 1);
        int b = claimed(y, 0, 5, 5, 6, 6);
        claimed(y, 1, 0, 0, 1, 1);
        claimed(y, 1, 5, 5, 6, 6);
        least(y, 2, a, b);
        // three in a ring of overlaps: any two go, the first two are the least
        AcresPaid z = farms(3);
        a = claimed(z, 2, 0, 0, 2, 2);
        b = claimed(z, 1, 0, 0, 2, 2);
        claimed(z, 0, 0, 0, 2, 2);
        least(z, 8, a, b);
        // each of farm 0 over each of farm 1: {second, third} is 6 as bits, {first, fourth} is 9
        AcresPaid w = farms(2);
        claimed(w, 0, 0, 0, 2, 1);
        b = claimed(w, 1, 0, 0, 1, 2);
        int c = claimed(w, 1, 1, 0, 2, 2);
        claimed(w, 0, 0, 1, 2, 2);
        least(w, 4, b, c);
    }

    /** "(at most 10 such, else BIG)". */
    private static void tenOrBig() {
        AcresPaid x = farms(2);
        int[] fields = new int[12];
        for (int i = 0; i < 9; i++) {
            fields[i] = claimed(x, 0, 2 * i, 0, 2 * i + 2, 1);
        }
        fields[9] = claimed(x, 1, 0, 0, 18, 1);
        claimed(x, 0, 20, 20, 21, 21);
        claimed(x, 1, 22, 20, 23, 21);
        Checks.field(x, 1, 0, 0, 1, 1);
        least(x, 18, fields[9]);
        int last = Checks.field(x, 0, 17, 0, 18, 2);
        least(x, 18, fields[9]);
        x.claim(0, last, 0);
        IT.due("33: eleven", BIG, x.least(0));
        given(x, fields[9]);
        IT.due("33: big again", BIG, x.least(0));
        IT.due("33: another year is not big", 0, x.least(1));
        given(x);
        IT.due("33: bad ahead of big", BAD, x.least(10));
        x.giveUp(last);
        least(x, 18, fields[9]);
    }

    /** "by the latest least() that was not refused". */
    private static void givenByTheLatest() {
        AcresPaid x = farms(2);
        int a = claimed(x, 0, 0, 0, 1, 1);
        claimed(x, 1, 0, 0, 2, 1);
        least(x, 1, a);
        x.giveUp(a);
        given(x, a);
        IT.due("33: bad", BAD, x.least(-1));
        given(x, a);
        least(x, 0);
    }

    /** "GIVE UP in a YEAR AS KNOWN TODAY". */
    private static void leastAsKnownToday() {
        AcresPaid x = farms(2);
        int a = claimed(x, 0, 0, 0, 1, 1);
        int b = claimed(x, 1, 0, 0, 2, 1);
        x.days(1);
        least(x, 1, a);
        x.days(364);
        IT.due("33: of year 1", 0, x.least(1));
        least(x, 1, a);
        x.claim(1, b, 0);
        IT.due("33: one farm claims in year 1", 0, x.least(1));
        x.claim(0, a, 0);
        IT.due("33: both do", 1, x.least(1));
    }

    /** So many farms of land 0, each with a field of 12 squares claimed: field of farm i is n + i. */
    private static AcresPaid claiming(int n) {
        AcresPaid x = farms(n);
        for (int i = 0; i < n; i++) {
            claimed(x, i, i % 2 * 12, i / 2, i % 2 * 12 + 12, i / 2 + 1);
        }
        return x;
    }

    /** "n (1 .. 9) FARMS of a LAND for a YEAR .. BAD". */
    private static void drawArguments() {
        AcresPaid x = claiming(12);
        for (int n : new int[] {MIN, -1, 0, 1, 2, 8, 9, 10, MAX}) {
            IT.due("36: n " + n, n < 1 || n > 9 ? BAD : n, x.draw(0, 0, n));
        }
        for (int land : new int[] {MIN, -1, 0, 1, 2, 3, 4, MAX}) {
            IT.due("36: land " + land, land == 0 ? 3 : land >= 1 && land <= 3 ? 0 : BAD, x.draw(land, 0, 3));
        }
        for (int year : new int[] {MIN, -1, 0, 1, 9, 10, MAX}) {
            IT.due("36: year " + year, year == 0 ? 3 : year == 1 || year == 9 ? 0 : BAD, x.draw(0, year, 3));
        }
    }

    /** "(all, if there are no more)", "how many were (less, if there are fewer)". */
    private static void allIfNoMore() {
        for (int farms = 0; farms <= 10; farms++) {
            for (int n = 1; n <= 9; n++) {
                AcresPaid x = claiming(farms);
                x.lots(99);
                int many = Math.min(n, farms);
                IT.due("36: " + n + " of " + farms, many, x.draw(0, 0, n));
                int seen = 0;
                for (int i = 0; i < many; i++) {
                    int farm = x.drawn(i);
                    IT.due("37: a farm", 1, farm >= 0 && farm < farms ? 1 : 0);
                    IT.due("37: once each", 0, seen >> farm & 1);
                    seen |= 1 << farm;
                }
                IT.due("37: no more", BAD, x.drawn(many));
            }
        }
    }

    /** "half of so many (up) by RISK .., the others by lot". */
    private static void halfUpByRisk() {
        for (int n = 1; n <= 9; n++) {
            AcresPaid x = claiming(20);
            x.lots(4711);
            x.draw(0, 0, n);
            int half = (n + 1) / 2;
            for (int i = 0; i < half; i++) {
                IT.due("37: by risk, all alike: the lesser", i, x.drawn(i));
            }
            int z = 4711;
            boolean[] gone = new boolean[20];
            for (int i = half; i < n; i++) {
                z = z * 1103515245 + 12345;
                int at = (z >>> 8) % (20 - i);
                int farm = half;
                for (int left = at; gone[farm] || left > 0; farm++) {
                    left -= gone[farm] ? 0 : 1;
                }
                gone[farm] = true;
                IT.due("37: of " + n + " number " + i + " by lot", farm, x.drawn(i));
            }
        }
    }

    /** "e of the YEAR ahead AS KNOWN TODAY ..; the greatest first, of like ones the lesser". */
    private static void greatestRiskFirst() {
        AcresPaid x = claiming(6);
        int[] missing = {1, 6, 0, 12, 6, 2};
        for (int i = 0; i < 6; i++) {
            x.control(i, 6 + i, 0, missing[i]);
        }
        x.days(365);
        for (int i = 0; i < 6; i++) {
            x.claim(i, 6 + i, 0);
        }
        x.control(2, 8, 1, 12);
        // e: 9, 100, 0, 999, 100, 20
        int[] want = {3, 1, 4, 5, 0};
        for (int n = 1; n <= 6; n++) {
            x.draw(0, 1, n);
            for (int i = 0; i < (n + 1) / 2; i++) {
                IT.due("37: of " + n + " number " + i, want[i], x.drawn(i));
            }
        }
        x.control(0, 6, 0, 12);
        x.draw(0, 1, 5);
        IT.due("37: of two with 999 the lesser", 0, x.drawn(0));
        IT.due("37: then the other", 3, x.drawn(1));
        x.giveUp(9);
        x.draw(0, 1, 5);
        IT.due("37: no claim that counts any more", 1, x.drawn(1));
        IT.due("37: as known today", 4, x.drawn(2));
    }

    private static void noRiskOfYearNought() {
        AcresPaid x = claiming(4);
        x.control(3, 7, 0, 12);
        x.draw(0, 0, 1);
        IT.due("37: 0 of year 0", 0, x.drawn(0));
        x.days(365);
        for (int i = 0; i < 4; i++) {
            x.claim(i, 4 + i, 0);
        }
        x.control(2, 6, 1, 12);
        x.draw(0, 1, 1);
        IT.due("37: of year 1 that of year 0", 3, x.drawn(0));
        x.draw(0, 0, 1);
        IT.due("37: still 0 of year 0", 0, x.drawn(0));
    }

    /** "The lot's z becomes v: 1"; "z * 1103515245 + 12345 (an int)"; "z >>> 8". */
    private static void lotsAnInt() {
        for (int v : new int[] {MIN, MIN + 1, -1, 0, 1, 12345, 1 << 30, MAX - 1, MAX, 77, -5}) {
            AcresPaid x = claiming(30);
            IT.due("35: lots(" + v + ")", 1, x.lots(v));
            x.draw(0, 0, 2);
            int z = v * 1103515245 + 12345;
            IT.due("37: the second by lot", 1 + (z >>> 8) % 29, x.drawn(1));
            x.draw(0, 0, 2);
            z = z * 1103515245 + 12345;
            IT.due("37: z goes on", 1 + (z >>> 8) % 29, x.drawn(1));
            IT.due("35: anew", 1, x.lots(v));
            x.draw(0, 0, 2);
            z = v * 1103515245 + 12345;
            IT.due("37: as at first", 1 + (z >>> 8) % 29, x.drawn(1));
        }
    }

    /** "of m left, by numbers, the ((z >>> 8) % m)-th": the last one left, too. */
    private static void lotsByNumbers() {
        for (int v = 0; v < 20; v++) {
            AcresPaid x = claiming(3);
            x.lots(v);
            x.draw(0, 0, 2);
            int z = v * 1103515245 + 12345;
            IT.due("37: of two left", 1 + (z >>> 8) % 2, x.drawn(1));
            AcresPaid y = claiming(2);
            y.lots(v);
            y.draw(0, 0, 2);
            IT.due("37: of one left", 1, y.drawn(1));
            y.farm(1, 0);
            claimed(y, 4, 0, 20, 1, 21);
            y.draw(0, 0, 2);
            z = z * 1103515245 + 12345;
            IT.due("37: z moved for the one left, too", new int[] {1, 4}[(z >>> 8) % 2], y.drawn(1));
        }
    }

    private static void refusedDrawsMoveNoLot() {
        AcresPaid x = claiming(20);
        AcresPaid y = claiming(20);
        x.lots(5);
        y.lots(5);
        int[][] bad = {{-1, 0, 4}, {4, 0, 4}, {0, -1, 4}, {0, 10, 4}, {0, 0, 0}, {0, 0, 10}};
        for (int[] b : bad) {
            IT.due("36: bad", BAD, x.draw(b[0], b[1], b[2]));
        }
        IT.due("36: nobody of land 1: no lot", 0, x.draw(1, 0, 4));
        IT.due("36: one by risk: no lot", 1, x.draw(0, 0, 1));
        x.draw(0, 0, 8);
        y.draw(0, 0, 8);
        for (int i = 0; i < 8; i++) {
            IT.due("37: as without them", y.drawn(i), x.drawn(i));
        }
    }

    /** "by the latest draw() that was not BAD. BAD". */
    private static void drawnByTheLatest() {
        AcresPaid x = claiming(9);
        IT.due("37: none yet", BAD, x.drawn(0));
        x.draw(0, 0, 9);
        for (int i : new int[] {MIN, -1, 9, 10, MAX}) {
            IT.due("37: drawn(" + i + ")", BAD, x.drawn(i));
        }
        IT.due("37: the first", 0, x.drawn(0));
        IT.due("37: the fifth", 4, x.drawn(4));
        x.draw(0, 0, 10);
        IT.due("37: a bad one changes nothing", 4, x.drawn(4));
        x.draw(0, 0, 2);
        IT.due("37: two only", BAD, x.drawn(2));
        IT.due("36: none", 0, x.draw(3, 0, 2));
        IT.due("37: none then", BAD, x.drawn(0));
    }

    /** "those with CLAIMS of that YEAR that count". */
    private static void onlyClaimsThatCount() {
        AcresPaid x = claiming(3);
        x.farm(1, 0);
        x.farm(2, 1);
        claimed(x, 7, 0, 20, 1, 21);
        IT.due("36: farm 6 claims nothing", 3, x.draw(0, 0, 9));
        IT.due("36: of land 1", 1, x.draw(1, 0, 9));
        IT.due("37: the one of land 1", 7, x.drawn(0));
        x.giveUp(3);
        IT.due("36: farm 0's is given up", 2, x.draw(0, 0, 9));
        IT.due("37: the next", 1, x.drawn(0));
        x.out(0, 2323, 0);
        IT.due("36: claims of squares that are out count", 2, x.draw(0, 0, 9));
    }

    private static void rateArguments() {
        AcresPaid x = claiming(1);
        x.control(0, 1, 0, 12);
        for (int what : new int[] {MIN, -1, 0, 1, 2, 3, MAX}) {
            IT.due("38: what " + what, what < 0 || what > 2 ? BAD : 1, x.rate(0, what, 549));
        }
        for (int year : new int[] {MIN, -1, 0, 1, 9, 10, MAX}) {
            IT.due("38: year " + year, year == 0 ? 1 : year == 1 || year == 9 ? 0 : BAD, x.rate(year, 0, 0));
            IT.due("38: year " + year, year == 0 ? 1 : year == 1 || year == 9 ? 0 : BAD, x.rate(year, 1, 0));
            IT.due("38: year " + year, year == 0 ? 1 : year == 1 || year == 9 ? 0 : BAD, x.rate(year, 2, 130));
        }
        for (int p = -1; p <= 101; p++) {
            x = wrong(1, 1);
            for (int w : new int[] {0, 1, 2, 48, 49, 50, 99}) {
                boolean good = p >= 1 && p <= 99 && w >= 1 && w <= 49;
                // one of one is wrong: so comes by p of 100
                IT.due("38: p " + p + ", w " + w, !good ? BAD : p < w ? 1 : 0, x.rate(0, 2, 100 * p + w));
            }
        }
        IT.due("38: MIN", BAD, x.rate(0, 2, MIN));
        IT.due("38: MAX", BAD, x.rate(0, 2, MAX));
        IT.due("38: what 0 asks no p and w", 1, x.rate(0, 0, MIN));
        IT.due("38: nor does what 1", 1, x.rate(0, 1, MAX));
    }

    /** "how many of them have e above 2". */
    private static void aboveTwo() {
        int[][] want = {{102, 2, 0}, {103, 3, 1}, {104, 3, 0}, {105, 3, 0}, {103, 2, 0}, {102, 3, 1}, {1, 1, 1}, {50, 0, 0}, {51, 1, 0}, {34, 1, 1}, {35, 1, 0}};
        for (int[] w : want) {
            AcresPaid x = farms(1);
            int rows = w[0] / 24, rest = w[0] % 24;
            int field = rows > 0 ? claimed(x, 0, 0, 0, 24, rows) : 0;
            if (rest > 0) {
                field = claimed(x, 0, 0, rows, rest, rows + 1);
            }
            x.control(0, field, 0, Math.min(rest, w[1]));
            if (w[1] > rest) {
                x.control(0, 1, 0, w[1] - rest);
            }
            int e = x.named(0, 0, 0, 8);
            IT.due("38: " + w[1] + " of " + w[0] + " missing, e " + e, w[2], x.rate(0, 1, 0));
            IT.due("38: above 2", w[2], e > 2 ? 1 : 0);
            IT.due("38: controlled", 1, x.rate(0, 0, 0));
        }
    }

    /** "those FARMS (of all LANDS) that have a CONTROL of a CLAIM of a YEAR". */
    private static void controlledOfAllLands() {
        AcresPaid x = new AcresPaid();
        int[] kinds = {1, 2, 3, 7};
        for (int i = 0; i < 4; i++) {
            x.farm(kinds[i], i);
        }
        for (int i = 0; i < 4; i++) {
            IT.due("38: so many", i, x.rate(0, 0, 0));
            x.control(i, claimed(x, i, 0, i, 4, i + 1), 0, i % 2);
            IT.due("38: above 2", (i + 1) / 2, x.rate(0, 1, 0));
        }
        x.control(0, 4, 0, 0);
        IT.due("38: two controls, one farm", 4, x.rate(0, 0, 0));
        x.days(365);
        x.claim(2, 6, 0);
        x.control(2, 6, 1, 0);
        IT.due("38: of year 1", 1, x.rate(1, 0, 0));
        IT.due("38: of year 0", 4, x.rate(0, 0, 0));
        x.control(1, 5, 0, 0);
        IT.due("38: e as known today", 1, x.rate(0, 1, 0));
    }

    /** Of n farms the last ones, so many, are wrong. */
    private static AcresPaid wrong(int n, int wrong) {
        AcresPaid x = claiming(n);
        for (int i = 0; i < n; i++) {
            x.control(i, n + i, 0, i < n - wrong ? 0 : 12);
        }
        return x;
    }

    /** "with a chance less than w of 100: 1 more, 2 fewer, else 0". */
    private static void lessThanW() {
        int[][] want = {
            // n, wrong, p, w, answer
            {1, 1, 10, 10, 0}, {1, 1, 10, 11, 1}, {1, 1, 9, 10, 1}, {1, 0, 90, 10, 0}, {1, 0, 90, 11, 2}, {1, 0, 91, 10, 2},
            {2, 2, 20, 4, 0}, {2, 2, 20, 5, 1}, {2, 1, 20, 36, 0}, {2, 1, 20, 37, 1}, {2, 0, 80, 4, 0}, {2, 0, 80, 5, 2}, {2, 1, 80, 36, 0}, {2, 1, 80, 37, 2},
            // 59 times 59 are 34.81 of 100
            {2, 2, 59, 34, 0}, {2, 2, 59, 35, 1}, {2, 0, 41, 34, 0}, {2, 0, 41, 35, 2},
            // a half each: 1, 4, 6, 4, 1 of 16: 6.25, 31.25
            {4, 4, 50, 6, 0}, {4, 4, 50, 7, 1}, {4, 3, 50, 31, 0}, {4, 3, 50, 32, 1}, {4, 2, 50, 49, 0}, {4, 1, 50, 32, 2}, {4, 1, 50, 31, 0}, {4, 0, 50, 7, 2},
            {4, 0, 50, 6, 0},
            // 1 of 256; 9 of 256: 3.5; 37 of 256: 14.4
            {8, 8, 50, 1, 1}, {8, 7, 50, 3, 0}, {8, 7, 50, 4, 1}, {8, 6, 50, 14, 0}, {8, 6, 50, 15, 1}, {8, 2, 50, 15, 2}, {8, 2, 50, 14, 0}, {8, 0, 50, 1, 2},
            // 3 of 3 by 99: 97; 0 of 3 by 1: 97
            {3, 3, 99, 49, 0}, {3, 0, 1, 49, 0}, {3, 0, 99, 1, 2}, {3, 3, 1, 1, 1}, {8, 8, 1, 1, 1}, {8, 0, 99, 1, 2},
        };
        for (int[] w : want) {
            IT.due("38: " + w[1] + " of " + w[0] + ", p " + w[2] + ", w " + w[3], w[4], wrong(w[0], w[1]).rate(0, 2, 100 * w[2] + w[3]));
        }
    }

    /** "of n (at most 8, those with the least numbers)". */
    private static void atMostEight() {
        // by 57 of 100: eight of eight 1.11, nine of nine 0.63; by 54: 0.72 and 0.39
        IT.due("38: eight", 0, wrong(8, 8).rate(0, 2, 5701));
        IT.due("38: the ninth is not judged", 0, wrong(9, 9).rate(0, 2, 5701));
        IT.due("38: seven", 0, wrong(7, 7).rate(0, 2, 5401));
        IT.due("38: the eighth is judged", 1, wrong(8, 8).rate(0, 2, 5401));
        IT.due("38: the first eight of ten are right", 2, wrong(10, 2).rate(0, 2, 5001));
        // one of eight by 50: 3.5
        IT.due("38: the eighth of ten is wrong", 0, wrong(10, 3).rate(0, 2, 5003));
        IT.due("38: one of eight", 2, wrong(10, 3).rate(0, 2, 5004));
        IT.due("38: all are told", 10, wrong(10, 3).rate(0, 0, 0));
        IT.due("38: all that are wrong are told", 3, wrong(10, 3).rate(0, 1, 0));
    }

    private static void noneControlled() {
        AcresPaid x = claiming(2);
        for (int p = 1; p <= 99; p += 49) {
            IT.due("38: nothing is unlike", 0, x.rate(0, 2, 100 * p + 49));
        }
        x.days(365);
        x.control(0, 2, 0, 12);
        x.rate(0, 2, 130);
        IT.due("38: none of year 1, though one of year 0", 0, x.rate(1, 2, 130));
    }

    /** "An area for MIX: how many. BAD, FULL: 6"; "1 .. 576 squares". */
    private static void plotsOfSquares() {
        int[][] want = {{MIN, BAD}, {-1, BAD}, {0, BAD}, {1, 1}, {2, 1}, {575, 1}, {576, 1}, {577, BAD}, {MAX, BAD}};
        for (int[] w : want) {
            AcresPaid x = new AcresPaid();
            x.worth(0, 1);
            IT.due("39: plot(" + w[0] + ")", w[1], x.plot(w[0]));
            IT.due("41: what it is worth", w[1] == BAD ? BAD : w[0], x.mix(100, 1));
        }
        AcresPaid x = new AcresPaid();
        x.worth(0, 1);
        for (int i = 1; i <= 6; i++) {
            IT.due("39: how many", i, x.plot(i));
            IT.due("39: bad", BAD, x.plot(0));
        }
        IT.due("39: the seventh", FULL, x.plot(7));
        IT.due("39: bad ahead of full", BAD, x.plot(577));
        IT.due("41: six", 21, x.mix(100, 1));
        IT.due("39: room again", 1, x.plot(7));
    }

    /** "Coins a square of a CROP for MIX: what they were (0 at first)"; "0 .. 99". */
    private static void worths() {
        for (int crop : new int[] {MIN, -1, 0, 1, 6, 7, 8, MAX}) {
            for (int v : new int[] {MIN, -1, 0, 1, 98, 99, 100, MAX}) {
                AcresPaid x = new AcresPaid();
                boolean good = 0 <= crop && crop <= 7 && 0 <= v && v <= 99;
                IT.due("40: worth(" + crop + ", " + v + ")", good ? 0 : BAD, x.worth(crop, v));
                for (int c = 0; c < 8; c++) {
                    IT.due("40: of crop " + c, good && c == crop ? v : 0, x.worth(c, 50));
                    IT.due("40: anew", 50, x.worth(c, 0));
                }
            }
        }
    }

    private static AcresPaid plots(int... squares) {
        AcresPaid x = new AcresPaid();
        for (int s : squares) {
            x.plot(s);
        }
        for (int crop = 0; crop < 8; crop++) {
            x.worth(crop, 10 + crop);
        }
        return x;
    }

    /** "no CROP above so many hundredths (1 .. 100), at least n (1 .. 3) CROPS"; "BAD: also no area". */
    private static void mixArguments() {
        for (int most : new int[] {MIN, -1, 0, 1, 99, 100, 101, MAX}) {
            for (int n : new int[] {MIN, -1, 0, 1, 2, 3, 4, MAX}) {
                AcresPaid x = plots(10);
                boolean good = 1 <= most && most <= 100 && 1 <= n && n <= 3;
                int due = !good ? BAD : most < 100 || n > 1 ? NOT : 170;
                IT.due("41: mix(" + most + ", " + n + ")", due, x.mix(most, n));
                IT.due("39: the areas", good ? 1 : 2, x.plot(5));
                IT.due("41: no area", BAD, new AcresPaid().mix(most, n));
            }
        }
    }

    private static void mixed(AcresPaid x, int... want) {
        for (int i = 0; i < want.length; i++) {
            IT.due("42: mixed(" + i + ")", want[i], x.mixed(i));
        }
        IT.due("42: no more", BAD, x.mixed(want.length));
        IT.due("42: -1", BAD, x.mixed(-1));
    }

    /** "no CROP has more than the told hundredths of all". */
    private static void noCropAboveItsShare() {
        IT.due("41: a half each", 10 * 17 + 10 * 16, plots(10, 10).mix(50, 1));
        IT.due("41: less than a half", NOT, plots(10, 10).mix(49, 1));
        IT.due("41: up to 99 hundredths", 10 * 17 + 10 * 16, plots(10, 10).mix(99, 1));
        IT.due("41: all", 20 * 17, plots(10, 10).mix(100, 1));
        // a third each: 33 hundredths are 0.99 squares of 3, 34 are 1.02
        IT.due("41: 33 of 100 of 3", NOT, plots(1, 1, 1).mix(33, 1));
        IT.due("41: 34 of 100 of 3", 17 + 16 + 15, plots(1, 1, 1).mix(34, 1));
        IT.due("41: 66 of 100 of 3", 17 + 16 + 15, plots(1, 1, 1).mix(66, 1));
        IT.due("41: 67 of 100 of 3", 17 + 17 + 16, plots(1, 1, 1).mix(67, 1));
        IT.due("41: the greatest is above its share", NOT, plots(76, 24).mix(75, 1));
        IT.due("41: the greatest has just its share", 76 * 17 + 24 * 16, plots(76, 24).mix(76, 1));
        IT.due("41: one hundredth of 100", NOT, plots(1, 99).mix(1, 1));
        IT.due("41: 16 of 100 of six", NOT, plots(5, 5, 5, 5, 5, 5).mix(16, 1));
        IT.due("41: 17 of 100 of six", 5 * (17 + 16 + 15 + 14 + 13 + 12), plots(5, 5, 5, 5, 5, 5).mix(17, 1));
    }

    /** "at least so many CROPS (1 .. 3)". */
    private static void atLeastSoManyCrops() {
        IT.due("41: one of one", 17, plots(1).mix(100, 1));
        IT.due("41: two of one", NOT, plots(1).mix(100, 2));
        IT.due("41: two of two", 33, plots(1, 1).mix(100, 2));
        IT.due("41: three of two", NOT, plots(1, 1).mix(100, 3));
        IT.due("41: three of three", 48, plots(1, 1, 1).mix(100, 3));
        AcresPaid x = plots(9, 1, 1, 9);
        IT.due("41: three of four", 18 * 17 + 16 + 15, x.mix(100, 3));
        mixed(x, 7, 5, 6, 7);
        AcresPaid y = plots(9, 1, 1, 9);
        IT.due("41: two of four", 19 * 17 + 16, y.mix(100, 2));
        mixed(y, 7, 6, 7, 7);
    }

    /** "the way with the most coins". */
    private static void theMostCoins() {
        AcresPaid x = plots(576, 576, 576, 576, 576, 576);
        x.worth(4, 99);
        IT.due("41: as much as can be", 576 * 6 * 99, x.mix(100, 1));
        mixed(x, 4, 4, 4, 4, 4, 4);
        AcresPaid y = plots(5, 4, 3, 3, 3);
        y.worth(0, 99);
        y.worth(1, 98);
        // 18 squares, 9 at most: 5 and 4, or 3 and 3 and 3 for the dearest
        IT.due("41: filled up", 9 * 99 + 9 * 98, y.mix(50, 1));
        mixed(y, 0, 0, 1, 1, 1);
        AcresPaid z = plots(6, 5, 5, 4);
        z.worth(7, 99);
        z.worth(0, 0);
        // 20 squares, 11 at most
        IT.due("41: 6 and 5 at 99, 5 and 4 at 16", 11 * 99 + 9 * 16, z.mix(55, 1));
        mixed(z, 7, 6, 7, 6);
    }

    /** "of several the first by areas (the lesser CROP)". */
    private static void theFirstByAreas() {
        AcresPaid x = new AcresPaid();
        for (int i = 0; i < 6; i++) {
            x.plot(1);
        }
        IT.due("41: all worth nothing", 0, x.mix(100, 3));
        mixed(x, 0, 0, 0, 0, 1, 2);
        AcresPaid y = new AcresPaid();
        y.plot(2);
        y.plot(1);
        y.plot(1);
        IT.due("41: a half each", 0, y.mix(50, 1));
        mixed(y, 0, 1, 1);
        AcresPaid z = new AcresPaid();
        z.worth(3, 5);
        z.worth(6, 5);
        z.plot(1);
        z.plot(2);
        z.plot(1);
        IT.due("41: two alike", 20, z.mix(50, 1));
        mixed(z, 3, 6, 3);
        AcresPaid w = new AcresPaid();
        w.worth(0, 1);
        w.worth(1, 1);
        w.worth(7, 2);
        w.plot(1);
        w.plot(1);
        IT.due("41: one at 2, one at 1: the lesser crop ahead", 3, w.mix(50, 1));
        mixed(w, 0, 7);
    }

    /** "(Areas are none then, but if BAD.)": behind NOT, too. */
    private static void areasAreNoneThen() {
        AcresPaid x = plots(10, 10);
        IT.due("41: bad", BAD, x.mix(0, 1));
        IT.due("41: bad", BAD, x.mix(101, 1));
        IT.due("41: bad", BAD, x.mix(100, 0));
        IT.due("41: bad", BAD, x.mix(100, 4));
        IT.due("39: they stay", 3, x.plot(10));
        IT.due("41: not", NOT, x.mix(33, 1));
        IT.due("41: none then", BAD, x.mix(100, 1));
        IT.due("39: the first", 1, x.plot(2));
        IT.due("41: found", 34, x.mix(100, 1));
        IT.due("41: none then", BAD, x.mix(100, 1));
        IT.due("40: worths stay", 17, x.worth(7, 17));
    }

    /** "by the latest mix() that found one. BAD". */
    private static void mixedByTheLatest() {
        AcresPaid x = plots(10, 10, 10);
        IT.due("42: none yet", BAD, x.mixed(0));
        IT.due("41: found", 480, x.mix(34, 3));
        mixed(x, 5, 6, 7);
        for (int i : new int[] {MIN, 3, 5, 6, MAX}) {
            IT.due("42: mixed(" + i + ")", BAD, x.mixed(i));
        }
        x.plot(1);
        IT.due("41: not", NOT, x.mix(99, 1));
        mixed(x, 5, 6, 7);
        IT.due("41: bad", BAD, x.mix(99, 1));
        mixed(x, 5, 6, 7);
        x.plot(3);
        mixed(x, 5, 6, 7);
        IT.due("41: one area", 51, x.mix(100, 1));
        mixed(x, 7);
    }

    /** Farms 0 to 3 of land 0, 4 of land 1, with 1 to 5 squares and a permit each. */
    private static AcresPaid forTrying() {
        AcresPaid x = new AcresPaid();
        for (int i = 0; i < 5; i++) {
            x.farm(1, i / 4);
        }
        for (int i = 0; i < 5; i++) {
            claimed(x, i, 0, i, i + 1, i + 1);
            Checks.permit(x, 1, i, 0);
        }
        return x;
    }

    /** "by a TEXT (of USE 0). BAD". */
    private static void triedArguments() {
        AcresPaid x = forTrying();
        IT.due("43: no text yet", BAD, x.tried(0, 0, 0, 0));
        Checks.text(x, 30, 9, "5");
        Checks.text(x, 1, 0, "1");
        Checks.text(x, 2, 0, "m");
        Checks.text(x, 3, 0, "0");
        int[][] texts = {{MIN, BAD}, {-1, BAD}, {0, 4}, {1, BAD}, {2, BAD}, {3, BAD}, {4, BAD}, {16, BAD}, {MAX, BAD}};
        for (int[] t : texts) {
            IT.due("43: text " + t[0], t[1], x.tried(t[0], 0, 0, 0));
        }
        for (int land : new int[] {MIN, -1, 0, 1, 2, 3, 4, MAX}) {
            int due = land == 0 ? 4 : land == 1 ? 1 : land == 2 || land == 3 ? 0 : BAD;
            IT.due("43: land " + land, due, x.tried(0, land, 0, 0));
        }
        for (int year : new int[] {MIN, -1, 0, 1, 9, 10, MAX}) {
            IT.due("43: year " + year, year == 0 ? 4 : year == 1 || year == 9 ? 0 : BAD, x.tried(0, 0, year, 0));
        }
        for (int what : new int[] {MIN, -1, 0, 1, 2, MAX}) {
            IT.due("43: what " + what, what == 0 ? 4 : what == 1 ? 0 : BAD, x.tried(0, 0, 0, what));
        }
        for (int i = 4; i < 16; i++) {
            Checks.text(x, 0, 9, "9");
        }
        IT.due("43: text 15", 4, x.tried(15, 0, 0, 0));
        IT.due("43: it was not in force", NOT, x.inForce(0, 0, 0));
    }

    /** "how many get more, fewer": like ones are neither. */
    private static void moreAndFewer() {
        AcresPaid x = forTrying();
        Checks.text(x, 0, 0, "10");
        String[] texts = {"10", "11", "9", "s<3?11;s=3?10;9", "s=1?11;10", "s=4?0;10", "0?9"};
        int[][] want = {{0, 0}, {4, 0}, {0, 4}, {2, 1}, {1, 0}, {0, 1}, {0, 4}};
        for (int i = 0; i < texts.length; i++) {
            int text = Checks.text(x, 20, 0, texts[i]);
            IT.due("43: more by " + texts[i], want[i][0], x.tried(text, 0, 0, 0));
            IT.due("43: fewer by " + texts[i], want[i][1], x.tried(text, 0, 0, 1));
        }
        Checks.text(x, 2, 0, "5");
        IT.due("43: all get 5 anyway", 0, x.tried(1, 0, 0, 0));
        IT.due("43: without any in force the RATE is 1", 1, x.tried(0, 1, 0, 0));
        IT.due("43: it is tried only", 5, x.paid(3, 0, 0, 0));
    }
}
