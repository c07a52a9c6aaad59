/** Promises 29 to 32, and Terms 5: each sentence that names a bound, by a test of its own. */
public final class BoundsPaymentsTest {
    private static final int MIN = Integer.MIN_VALUE, MAX = Integer.MAX_VALUE, BAD = -1, VOID = -2000000000, MOST = 2000000000;
    private static final Checks IT = new Checks("bounds of payments");

    public static void main(String[] args) {
        paidArguments();
        withoutAnyText();
        tenSquaresAPermit();
        theDearestFirst();
        permitsOnTheLastDay();
        ratesHeld();
        greenOrNot();
        threeTenthsCut();
        greenHeld();
        stepHeld();
        fineHeld();
        fineUp();
        noFineWithMajeure();
        theLineOfFine();
        lateCut();
        allAtAHundred();
        eachStepOnTheOneAhead();
        claimsAsKnown();
        controlsAsKnown();
        handoversAsKnown();
        outsAsKnown();
        textsAsKnown();
        givenUpAsKnown();
        settleArguments();
        settledInPlace();
        backOfYearsAhead();
        backHeldAbove();
        backHeldBelow();
        backArguments();
        budgetArguments();
        budgetAboveOrNot();
        wholePartsAndRests();
        likeRests();
        budgetOfItsLand();
        budgetOfGreatSums();
        IT.end();
    }

    /** Farm 0 of land 0 with field 1 of so many squares (a row), claimed on day 0. */
    private static AcresPaid withSquares(int n) {
        AcresPaid x = new AcresPaid();
        x.farm(1, 0);
        x.claim(0, Checks.field(x, 0, 0, 0, n, 1), 1);
        return x;
    }

    /** Farm 0 with one square and one permit of 1 coin: of a RATE r it is paid r + 1 by step 1. */
    private static AcresPaid withSum(String sum) {
        AcresPaid x = withSquares(1);
        Checks.permit(x, 1, 0, 0);
        Checks.text(x, 0, 0, sum + "-1");
        return x;
    }

    private static void paid(AcresPaid x, int what, int want) {
        IT.due("29: paid, what " + what, want, x.paid(0, 0, x.count(7), what));
    }

    private static void paidArguments() {
        AcresPaid x = withSum("50");
        int[] want = {65, 50, 65, 65, 65, 65, -1};
        for (int what = -1; what <= 7; what++) {
            IT.due("29: what " + what, what < 0 || what > 6 ? VOID : want[what], x.paid(0, 0, 0, what));
        }
        IT.due("29: what MIN", VOID, x.paid(0, 0, 0, MIN));
        IT.due("29: what MAX", VOID, x.paid(0, 0, 0, MAX));
        for (int farm : new int[] {MIN, -1, 1, 2, 3, 150, MAX}) {
            IT.due("29: farm " + farm, VOID, x.paid(farm, 0, 0, 0));
        }
        for (int year : new int[] {MIN, -1, 0, 1, 9, 10, MAX}) {
            IT.due("29: year " + year, year == 0 ? 65 : year == 1 || year == 9 ? 0 : VOID, x.paid(0, year, 0, 0));
        }
        for (int k : new int[] {MIN, -1, 0, 3649, 3650, MAX}) {
            IT.due("29: k " + k, k == 0 || k == 3649 ? 65 : VOID, x.paid(0, 0, k, 0));
        }
    }

    /** "Without any: RATE 1, GREEN 1, STEP all, FINE 0". */
    private static void withoutAnyText() {
        AcresPaid x = withSquares(10);
        Checks.permit(x, 9, 0, 0);
        int[] want = {130, 100, 130, 130, 130, 130, -1};
        for (int what = 0; what < 7; what++) {
            paid(x, what, want[what]);
        }
        Checks.text(x, 10, 0, "7");
        Checks.text(x, 0, 1, "7");
        paid(x, 0, 130);
    }

    /** "of f squares so many as it HOLDS PERMITS for .. (each PERMIT is for 10 squares)". */
    private static void tenSquaresAPermit() {
        int[][] want = {{1, 0, 0}, {1, 1, 1}, {9, 1, 9}, {10, 1, 10}, {11, 1, 10}, {20, 1, 10}, {19, 2, 19}, {20, 2, 20}, {21, 2, 20}, {24, 3, 24}, {24, 40, 24}};
        for (int[] w : want) {
            AcresPaid x = withSquares(w[0]);
            for (int i = 0; i < w[1]; i++) {
                Checks.permit(x, 1, 0, 0);
            }
            paid(x, 1, 2 * w[2]);
            Checks.text(x, 0, 0, "0");
            paid(x, 1, w[2]);
            Checks.text(x, 0, 0, "100");
            paid(x, 1, 101 * w[2]);
        }
        AcresPaid none = new AcresPaid();
        none.farm(1, 0);
        Checks.permit(none, 999, 0, 0);
        paid(none, 1, 0);
        AcresPaid all = new AcresPaid();
        all.farm(1, 0);
        all.claim(0, Checks.field(all, 0, 0, 0, 24, 24), 1);
        for (int i = 0; i < 57; i++) {
            Checks.permit(all, 1, 0, 0);
        }
        paid(all, 1, 1140);
        Checks.permit(all, 1, 0, 0);
        paid(all, 1, 1152);
    }

    /** "for each of these the VALUE of its PERMIT (the dearest first .. 10 squares each)". */
    private static void theDearestFirst() {
        int[][] values = {{1, 50, 999}, {999, 50, 1}, {50, 999, 1}, {50, 1, 999}};
        for (int[] v : values) {
            int[] squares = {1, 9, 10, 11, 20, 21, 24};
            int[] want = {999, 8991, 9990, 10040, 10490, 10491, 10494};
            for (int i = 0; i < squares.length; i++) {
                AcresPaid x = withSquares(squares[i]);
                Checks.text(x, 0, 0, "0");
                for (int value : v) {
                    Checks.permit(x, value, 0, 0);
                }
                paid(x, 1, want[i]);
            }
        }
        AcresPaid x = withSquares(24);
        Checks.text(x, 0, 0, "0");
        x.farm(1, 0);
        Checks.permit(x, 999, 2, 0);
        x.permit(998);
        Checks.permit(x, 7, 0, 0);
        Checks.permit(x, 7, 0, 0);
        // those of others and of nobody count nothing; of like ones each counts once
        paid(x, 1, 140);
        IT.due("29: the other has no squares", 0, x.paid(2, 0, 0, 1));
    }

    /** "HOLDS PERMITS for on the last DAY" of the YEAR, as known on k. */
    private static void permitsOnTheLastDay() {
        for (int year : new int[] {0, 1, 9}) {
            AcresPaid x = new AcresPaid();
            x.farm(1, 0);
            x.farm(1, 0);
            int field = Checks.field(x, 0, 0, 0, 1, 1);
            int last = 365 * year + 364;
            Checks.permit(x, 10, 0, last);
            if (year < 9) {
                Checks.permit(x, 500, 0, last + 1);
            }
            int lost = x.permit(100);
            x.handOver(lost, 0, 0);
            x.handOver(lost, 1, last);
            Checks.toDay(x, 365 * year);
            x.claim(0, field, 0);
            IT.due("29: permits of the last day of " + year, 11, x.paid(0, year, 365 * year, 1));
        }
    }

    /** "Behind each step the sum is held within 0 .. 2000000000": step 1. */
    private static void ratesHeld() {
        String[] sums = {"0", "1", "2000*1000*1000-1", "2000*1000*1000", "2000*1000*1000+1", "65535*32768+32767", "0-1", "-65536*32768+1"};
        int[] want = {0, 1, MOST - 1, MOST, MOST, MOST, 0, 0};
        for (int i = 0; i < sums.length; i++) {
            paid(withSum(sums[i]), 1, want[i]);
        }
        AcresPaid x = withSquares(24);
        for (int i = 0; i < 3; i++) {
            Checks.permit(x, 999, 0, 0);
        }
        Checks.text(x, 0, 0, "65535*32768+32767");
        paid(x, 1, MOST);
        Checks.text(x, 0, 0, "-65536*32768");
        paid(x, 1, 0);
        Checks.text(x, 0, 0, "-999");
        paid(x, 1, 0);
        Checks.text(x, 0, 0, "-998");
        paid(x, 1, 24);
        Checks.text(x, 0, 0, "0?5");
        paid(x, 1, 24 * 999);
    }

    /** "2 GREEN: if not 0, three tenths more". */
    private static void greenOrNot() {
        String[] texts = {"0", "1", "-1", "2", "0?1", "65536*32768", "m", "1>2"};
        boolean[] green = {false, true, true, true, false, true, false, false};
        for (int i = 0; i < texts.length; i++) {
            AcresPaid x = withSum("100");
            Checks.text(x, 1, 0, texts[i]);
            paid(x, 2, green[i] ? 130 : 100);
            paid(x, 1, 100);
        }
    }

    /** "three tenths more (cut)". */
    private static void threeTenthsCut() {
        int[][] want = {{0, 0}, {1, 1}, {2, 2}, {3, 3}, {4, 5}, {6, 7}, {7, 9}, {9, 11}, {10, 13}, {11, 14}, {13, 16}, {14, 18}, {99, 128}, {999999, 1299998}};
        for (int[] w : want) {
            paid(withSum("" + w[0]), 2, w[1]);
        }
    }

    private static void greenHeld() {
        // 1538461538 and three tenths are 1999999999.4; one more would be 2000000000.7; two more 2000000002
        String near = "1538*1000*1000+461538";
        paid(withSum(near), 2, 1999999999);
        paid(withSum(near + "+1"), 2, MOST);
        paid(withSum(near + "+2"), 2, MOST);
        paid(withSum("2000*1000*1000"), 2, MOST);
    }

    /** "3 STEP: what it gives, held within 0 and the sum". */
    private static void stepHeld() {
        String[] texts = {"-65536*32768", "-1", "0", "1", "129", "130", "131", "65535*32768+32767", "m", "m-1", "m+1", "0?9"};
        int[] want = {0, 0, 0, 1, 129, 130, 130, 130, 130, 129, 130, 0};
        for (int i = 0; i < texts.length; i++) {
            AcresPaid x = withSum("100");
            Checks.text(x, 2, 0, texts[i]);
            paid(x, 3, want[i]);
            paid(x, 2, 130);
        }
    }

    /** "4 FINE: held within 0 .. 100". */
    private static void fineHeld() {
        String[] texts = {"-65536*32768", "-1", "0", "1", "50", "99", "100", "101", "65535*32768+32767", "0?9"};
        int[] want = {1300, 1300, 1300, 1287, 650, 13, 0, 0, 0, 1300};
        for (int i = 0; i < texts.length; i++) {
            AcresPaid x = withSum("1000");
            Checks.text(x, 3, 0, texts[i]);
            paid(x, 4, want[i]);
            paid(x, 3, 1300);
        }
    }

    /** "so many hundredths of it away (up)". */
    private static void fineUp() {
        int[][] want = {{0, 50, 0}, {1, 1, 0}, {1, 0, 1}, {1, 99, 0}, {99, 1, 98}, {100, 1, 99}, {101, 1, 99}, {200, 1, 198}, {201, 1, 198}, {3, 50, 1}, {4, 50, 2},
            {3, 33, 2}, {3, 34, 1}, {999, 99, 9}, {1000, 99, 10}};
        for (int[] w : want) {
            AcresPaid x = withSum("" + w[0]);
            Checks.text(x, 1, 0, "0");
            Checks.text(x, 3, 0, "" + w[1]);
            paid(x, 4, w[2]);
        }
        AcresPaid most = withSum("2000*1000*1000");
        Checks.text(most, 3, 0, "1");
        paid(most, 4, 1980000000);
        Checks.text(most, 3, 0, "99");
        paid(most, 4, 20000000);
        AcresPaid nearly = withSum("2000*1000*1000-1");
        Checks.text(nearly, 1, 0, "0");
        Checks.text(nearly, 3, 0, "99");
        paid(nearly, 4, 19999999);
    }

    /** "none with MAJEURE": proved by k, for that year, of that farm. */
    private static void noFineWithMajeure() {
        AcresPaid x = withSum("100");
        x.farm(1, 0);
        Checks.text(x, 3, 0, "50");
        x.majeure(0, 1);
        paid(x, 4, 65);
        x.majeure(3, 0);
        paid(x, 4, 65);
        x.days(5);
        x.majeure(0, 0);
        paid(x, 4, 130);
        IT.due("29: as known the day ahead", 65, x.paid(0, 0, 4, 4));
        IT.due("29: as known that day", 130, x.paid(0, 0, 5, 4));
        IT.due("29: late is away all the same", 130, x.paid(0, 0, 5, 5));
        x.close(0, 0);
        IT.due("29: none late on day 0", 130, x.paid(0, 0, 5, 5));
    }

    /** "6 the LINE of FINE (-1)". */
    private static void theLineOfFine() {
        AcresPaid x = withSum("100");
        paid(x, 6, -1);
        Checks.text(x, 2, 0, "0?1;2");
        paid(x, 6, -1);
        Checks.text(x, 3, 0, "s=9?1;s=1?2;3");
        paid(x, 6, 1);
        x.control(0, 1, 0, 1);
        Checks.text(x, 3, 0, "f>0?1");
        paid(x, 6, -1);
        Checks.text(x, 3, 0, "f=0?1");
        paid(x, 6, 0);
        IT.due("29: of a year that no text is for", 0, x.paid(0, 1, 0, 6));
    }

    /** "5 LATE: one hundredth a day away (cut ..)". */
    private static void lateCut() {
        int[][] want = {{0, 5, 0}, {1, 1, 1}, {1, 99, 1}, {99, 1, 99}, {100, 1, 99}, {101, 1, 100}, {199, 1, 198}, {200, 1, 198}, {50, 50, 25}, {51, 50, 26},
            {999, 99, 10}, {1000, 99, 10}, {100, 0, 100}};
        for (int[] w : want) {
            AcresPaid x = new AcresPaid();
            x.farm(1, 0);
            int field = Checks.field(x, 0, 0, 0, 1, 1);
            Checks.permit(x, 1, 0, 0);
            Checks.text(x, 0, 0, w[0] + "-1");
            Checks.text(x, 1, 0, "0");
            x.days(135 + w[1]);
            x.claim(0, field, 0);
            IT.due("29: ahead of LATE", w[0], x.paid(0, 0, 135 + w[1], 4));
            IT.due("29: " + w[0] + " coins, " + w[1] + " days", w[2], x.paid(0, 0, 135 + w[1], 5));
            IT.due("29: all", w[2], x.paid(0, 0, 135 + w[1], 0));
        }
    }

    /** "all at 100": and behind it. */
    private static void allAtAHundred() {
        AcresPaid x = new AcresPaid();
        x.farm(1, 0);
        int field = Checks.field(x, 0, 0, 0, 1, 1);
        Checks.permit(x, 1, 0, 0);
        Checks.text(x, 0, 0, "2000*1000*1000");
        x.days(364);
        x.claim(0, field, 0);
        int[][] want = {{364, MOST}, {363, 1980000000}, {265, 20000000}, {264, 0}, {263, 0}, {135, 0}, {0, 0}};
        for (int[] w : want) {
            x.close(0, w[0]);
            IT.due("29: close " + w[0], w[1], x.paid(0, 0, 364, 5));
            IT.due("29: ahead of LATE", MOST, x.paid(0, 0, 364, 4));
        }
    }

    /** "worked out in steps": each from the sum that the one ahead has left. */
    private static void eachStepOnTheOneAhead() {
        AcresPaid x = new AcresPaid();
        x.farm(1, 0);
        int field = Checks.field(x, 0, 0, 0, 1, 1);
        Checks.permit(x, 1, 0, 0);
        Checks.text(x, 0, 0, "999");
        Checks.text(x, 2, 0, "m/2");
        Checks.text(x, 3, 0, "7");
        x.days(145);
        x.claim(0, field, 0);
        // 7 of 650 are 45.5, up; 10 days of 604 are 60.4, cut
        int[] want = {544, 1000, 1300, 650, 604, 544, 0};
        for (int what = 0; what < 7; what++) {
            paid(x, what, want[what]);
        }
        IT.due("30: settled", 544, x.settle(0, 0));
        IT.due("32: not above", 544, x.budget(0, 0, 544));
        x.majeure(0, 0);
        paid(x, 4, 650);
        paid(x, 5, 585);
    }

    private static void known(AcresPaid x, int what, int... want) {
        for (int k = 0; k < want.length; k++) {
            IT.due("29: as known on " + k + ", what " + what, want[k], x.paid(0, 0, k, what));
        }
    }

    /** "CLAIMS .. told by k". */
    private static void claimsAsKnown() {
        AcresPaid x = withSquares(4);
        int other = Checks.field(x, 0, 0, 2, 3, 3);
        Checks.permit(x, 1, 0, 0);
        x.days(2);
        x.claim(0, other, 1);
        known(x, 1, 8, 8, 14, 14);
    }

    private static void controlsAsKnown() {
        AcresPaid x = withSquares(4);
        Checks.permit(x, 1, 0, 0);
        x.days(2);
        x.control(0, 1, 0, 3);
        known(x, 1, 8, 8, 2, 2);
    }

    private static void handoversAsKnown() {
        AcresPaid x = withSquares(4);
        int permit = x.permit(9);
        x.days(2);
        x.handOver(permit, 0, 0);
        known(x, 1, 0, 0, 40, 40);
    }

    private static void outsAsKnown() {
        AcresPaid x = withSquares(4);
        Checks.permit(x, 1, 0, 0);
        x.days(2);
        x.out(0, 0, 0);
        known(x, 1, 8, 8, 6, 6);
    }

    private static void textsAsKnown() {
        AcresPaid x = withSquares(4);
        Checks.permit(x, 1, 0, 0);
        x.days(2);
        Checks.text(x, 0, 0, "2");
        Checks.text(x, 1, 0, "0");
        Checks.text(x, 2, 0, "11");
        Checks.text(x, 3, 0, "10");
        known(x, 1, 8, 8, 12, 12);
        known(x, 2, 10, 10, 12, 12);
        known(x, 3, 10, 10, 11, 11);
        known(x, 4, 10, 10, 9, 9);
        known(x, 6, -1, -1, 0, 0);
    }

    /** "FIELDS given up by then are claimed no more". */
    private static void givenUpAsKnown() {
        AcresPaid x = withSquares(4);
        Checks.permit(x, 1, 0, 0);
        x.days(2);
        x.giveUp(1);
        known(x, 1, 8, 8, 0, 0);
    }

    /** "PAID of a FARM for a YEAR (that or an earlier one) .. BAD". */
    private static void settleArguments() {
        for (int day : new int[] {0, 364, 365, 729, 730, 3284, 3285, 3649}) {
            AcresPaid x = withSum("100");
            Checks.toDay(x, day);
            for (int year = -1; year <= 10; year++) {
                int due = year < 0 || year > day / 365 ? BAD : year == 0 ? 130 : 0;
                IT.due("30: on " + day + ", year " + year, due, x.settle(0, year));
            }
            IT.due("30: MIN", BAD, x.settle(0, MIN));
            IT.due("30: MAX", BAD, x.settle(0, MAX));
        }
        AcresPaid x = withSum("100");
        for (int farm : new int[] {MIN, -1, 1, 2, 3, 150, MAX}) {
            IT.due("30: farm " + farm, BAD, x.settle(farm, 0));
        }
        x.days(365);
        IT.due("30: refused, nothing is settled", 130, x.back(0));
    }

    /** "(In place of what was.)", "AS KNOWN then". */
    private static void settledInPlace() {
        AcresPaid x = withSum("100");
        IT.due("30: how much", 130, x.settle(0, 0));
        x.days(365);
        IT.due("31: nothing is owed", 0, x.back(0));
        Checks.text(x, 1, 0, "0");
        IT.due("31: what was settled stays as it was", -30, x.back(0));
        IT.due("30: anew", 100, x.settle(0, 0));
        IT.due("31: in place of 130", 0, x.back(0));
        Checks.text(x, 2, 0, "0");
        IT.due("30: nothing", 0, x.settle(0, 0));
        IT.due("31: in place of 100", 0, x.back(0));
        Checks.text(x, 2, 0, "m");
        IT.due("31: nothing was settled", 100, x.back(0));
    }

    /** "the sum over YEARS ahead of the present one .. (.. 0 if none was)". */
    private static void backOfYearsAhead() {
        AcresPaid x = new AcresPaid();
        x.farm(1, 0);
        x.farm(1, 0);
        int field = Checks.field(x, 0, 0, 0, 1, 1);
        Checks.permit(x, 1, 0, 0);
        Checks.text(x, 0, 0, "9");
        for (int year = 0; year < 10; year++) {
            IT.due("31: on the first day of " + year, 13 * year, x.back(0));
            x.claim(0, field, 0);
            IT.due("31: this year counts not yet", 13 * year, x.back(0));
            x.days(364);
            IT.due("31: nor on its last day", 13 * year, x.back(0));
            x.days(1);
        }
        x.settle(0, 9);
        IT.due("31: nor when it is settled", 117, x.back(0));
        x.settle(0, 8);
        IT.due("31: the year ahead settled", 104, x.back(0));
        IT.due("31: another farm", 0, x.back(1));
        x.settle(1, 0);
        IT.due("31: another farm's settled", 104, x.back(0));
    }

    /** "(Held within .. 2000000000.)" */
    private static void backHeldAbove() {
        int[][] want = {{999, 999999999, MOST - 2}, {1000, 0, MOST}, {1000, 1, MOST}, {2000, 0, MOST}};
        for (int[] w : want) {
            AcresPaid x = twoYears(w[0] == 999 ? "999*1000*1000+999999" : w[0] + "*1000*1000+" + w[1]);
            IT.due("31: twice " + w[0] + " million and " + w[1], w[2], x.back(0));
        }
        AcresPaid x = twoYears("1000*1000*1000");
        x.settle(0, 0);
        Checks.text(x, 2, 0, "y=1?m;m-1");
        IT.due("31: just below", 999999999, x.back(0));
    }

    /** On the first day of year 2: in years 0 and 1 paid alike, nothing settled. */
    private static AcresPaid twoYears(String sum) {
        AcresPaid x = withSum(sum);
        Checks.text(x, 1, 0, "0");
        x.days(365);
        x.claim(0, 1, 0);
        x.days(365);
        return x;
    }

    /** "(Held within -1999999999 ..)" */
    private static void backHeldBelow() {
        String[] sums = {"999*1000*1000+999999", "1000*1000*1000", "1000*1000*1000+1", "2000*1000*1000"};
        int[] want = {-1999999998, -1999999999, -1999999999, -1999999999};
        int[] lessOne = {-1999999997, -1999999999, -1999999999, -1999999999};
        for (int i = 0; i < sums.length; i++) {
            AcresPaid x = twoYears(sums[i]);
            x.settle(0, 0);
            x.settle(0, 1);
            IT.due("31: all settled", 0, x.back(0));
            Checks.text(x, 2, 0, "0");
            IT.due("31: all to give back of twice " + sums[i], want[i], x.back(0));
            Checks.text(x, 2, 0, "y=0?1;0");
            IT.due("31: all but 1", lessOne[i], x.back(0));
        }
    }

    private static void backArguments() {
        AcresPaid x = withSum("100");
        x.body();
        for (int farm : new int[] {MIN, -1, 1, 2, 3, 4, 150, MAX}) {
            IT.due("31: farm " + farm, VOID, x.back(farm));
        }
        IT.due("31: year 0", 0, x.back(0));
    }

    /** "BUDGET v (0 .. 2000000000)". */
    private static void budgetArguments() {
        AcresPaid x = withSum("100");
        for (int v : new int[] {MIN, -1, 0, 1, 129, 130, 131, MOST, MOST + 1, MAX}) {
            IT.due("32: v " + v, v < 0 || v > MOST ? BAD : Math.min(130, v), x.budget(0, 0, v));
        }
        for (int year : new int[] {MIN, -1, 0, 1, 9, 10, MAX}) {
            IT.due("32: year " + year, year == 0 ? 130 : year == 1 || year == 9 ? 0 : BAD, x.budget(0, year, 1000));
        }
        for (int farm : new int[] {MIN, -1, 1, 2, 3, 150, MAX}) {
            IT.due("32: farm " + farm, BAD, x.budget(farm, 0, 1000));
        }
    }

    /** Farms of land 1, each with so many squares and a permit of 1 coin, neither green: paid twice so many. */
    private static AcresPaid shares(int... squares) {
        AcresPaid x = new AcresPaid();
        for (int i = 0; i < squares.length; i++) {
            x.farm(1, 1);
        }
        for (int i = 0; i < squares.length; i++) {
            if (squares[i] > 0) {
                x.claim(i, Checks.field(x, i, 0, i, squares[i], i + 1), 0);
            }
            Checks.permit(x, 1, i, 0);
        }
        Checks.text(x, 11, 0, "0");
        return x;
    }

    private static void budget(AcresPaid x, int v, int... want) {
        for (int farm = 0; farm < want.length; farm++) {
            IT.due("32: of " + v + " farm " + farm, want[farm], x.budget(farm, 0, v));
        }
    }

    /** "if PAID of all its FARMS together is above it". */
    private static void budgetAboveOrNot() {
        AcresPaid x = shares(1, 2, 7);
        budget(x, 21, 2, 4, 14);
        budget(x, 20, 2, 4, 14);
        // 1.9, 3.8, 13.3
        budget(x, 19, 2, 4, 13);
        budget(x, MOST, 2, 4, 14);
    }

    /** "each gets the whole part by its share, the rest one by one to those with the greatest rests". */
    private static void wholePartsAndRests() {
        AcresPaid x = shares(1, 2, 7);
        budget(x, 0, 0, 0, 0);
        // 0.1, 0.2, 0.7
        budget(x, 1, 0, 0, 1);
        // 0.3, 0.6, 2.1
        budget(x, 3, 0, 1, 2);
        // 0.4, 0.8, 2.8
        budget(x, 4, 0, 1, 3);
        // 0.6, 1.2, 4.2
        budget(x, 6, 1, 1, 4);
        // 0.8, 1.6, 5.6: two more, 8 of 10 the first, then the lesser of two with 6
        budget(x, 8, 1, 2, 5);
        // 0.9, 1.8, 6.3
        budget(x, 9, 1, 2, 6);
        // 1, 2, 7: no rests
        budget(x, 10, 1, 2, 7);
        // 0.43, 2.57
        budget(shares(1, 6), 3, 0, 3);
        AcresPaid alone = shares(9);
        budget(alone, 17, 17);
        budget(alone, 1, 1);
        budget(alone, 18, 18);
        AcresPaid nothing = shares(0, 0);
        budget(nothing, 0, 0, 0);
        budget(nothing, 5, 0, 0);
        AcresPaid some = shares(0, 3, 0, 3);
        // nothing of 0.5, and nothing to those with no share
        budget(some, 1, 0, 1, 0, 0);
        budget(some, 11, 0, 6, 0, 5);
    }

    /** "of like ones the lesser FARM". */
    private static void likeRests() {
        AcresPaid x = shares(5, 5, 5, 5);
        budget(x, 1, 1, 0, 0, 0);
        budget(x, 2, 1, 1, 0, 0);
        budget(x, 3, 1, 1, 1, 0);
        budget(x, 4, 1, 1, 1, 1);
        budget(x, 39, 10, 10, 10, 9);
        AcresPaid y = shares(2, 1, 1);
        // 0.5, 0.25, 0.25
        budget(y, 1, 1, 0, 0);
        // 1.5, 0.75, 0.75
        budget(y, 3, 1, 1, 1);
        // 2.5, 1.25, 1.25
        budget(y, 5, 3, 1, 1);
        // 3.5, 1.75, 1.75
        budget(y, 7, 3, 2, 2);
    }

    /** "BUDGET v of a LAND". */
    private static void budgetOfItsLand() {
        AcresPaid x = shares(4, 4);
        x.farm(1, 0);
        int farm = x.count(0) - 1;
        x.claim(farm, Checks.field(x, farm, 0, 10, 10, 11), 0);
        Checks.permit(x, 1, farm, 0);
        budget(x, 16, 8, 8);
        budget(x, 15, 8, 7);
        IT.due("32: of land 0", 15, x.budget(farm, 0, 15));
        IT.due("32: of land 0, all", 26, x.budget(farm, 0, 26));
        x.days(5);
        x.giveUp(2);
        IT.due("32: as known today", 0, x.budget(0, 0, 15));
    }

    private static void budgetOfGreatSums() {
        AcresPaid x = shares(1, 1, 1);
        Checks.text(x, 10, 0, "2000*1000*1000");
        budget(x, MOST, 666666667, 666666667, 666666666);
        budget(x, MOST - 1, 666666667, 666666666, 666666666);
        AcresPaid one = shares(1);
        Checks.text(one, 10, 0, "2000*1000*1000");
        budget(one, MOST, MOST);
        budget(one, MOST - 1, MOST - 1);
    }
}
