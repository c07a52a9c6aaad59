/** Promises 15 to 20, and Terms 2 on claims, outs and controls: each sentence that names a bound, by a test of its own. */
public final class BoundsClaimsTest {
    private static final int MIN = Integer.MIN_VALUE, MAX = Integer.MAX_VALUE, BAD = -1, NOT = -2, FULL = -3;
    private static final Checks IT = new Checks("bounds of claims");

    public static void main(String[] args) {
        cropsOfClaims();
        bodiesOfClaims();
        heldThatDay();
        claimsStayWhenLandChangesHands();
        notOfFieldsGivenUp();
        threeHundredClaims();
        theLastMadeCounts();
        closesOfLands();
        lateByDateLessClose();
        squaresOfTwoFarms();
        paidOnceForTheLeast();
        cornersOfOuts();
        rowsAndColumnsOut();
        outFromADay();
        outAsKnown();
        fortyOuts();
        countedArguments();
        countedAsKnown();
        toldBetweenTwoQuestions();
        missingSquares();
        theLatestControl();
        controlArguments();
        controlsByClaim();
        twoHundredControls();
        majeureYears();
        majeureAsKnown();
        IT.end();
    }

    private static AcresPaid farms(int n) {
        AcresPaid x = new AcresPaid();
        for (int i = 0; i < n; i++) {
            x.farm(1, i % 4);
        }
        return x;
    }

    /** "each with a CROP 0 .. 7 (MEADOWS 0)". */
    private static void cropsOfClaims() {
        for (int crop : new int[] {MIN, -1, 0, 1, 6, 7, 8, MAX}) {
            AcresPaid x = farms(1);
            int field = Checks.field(x, 0, 0, 0, 1, 1);
            int meadow = Checks.meadow(x, 0, 2, 2, 3, 3);
            boolean good = 0 <= crop && crop <= 7;
            IT.due("15: a field with crop " + crop, good ? 1 : BAD, x.claim(0, field, crop));
            IT.due("15: as told", good ? crop : NOT, x.counted(0, field, 0, 0, 2));
            IT.due("15: a meadow with crop " + crop, crop == 0 ? good ? 2 : 1 : BAD, x.claim(0, meadow, crop));
            IT.due("15: a meadow's claim", crop == 0 ? 0 : NOT, x.counted(0, meadow, 0, 0, 2));
            IT.due("15: so many", crop == 0 ? 2 : good ? 1 : 0, x.count(4));
        }
    }

    private static void bodiesOfClaims() {
        AcresPaid x = farms(2);
        int field = Checks.field(x, 0, 0, 0, 1, 1);
        int permit = x.permit(4);
        int body = x.body();
        for (int farm : new int[] {MIN, -1, field, permit, body, 5, 150, MAX}) {
            IT.due("15: farm " + farm, BAD, x.claim(farm, field, 0));
        }
        for (int other : new int[] {MIN, -1, 0, 1, permit, body, 5, 150, MAX}) {
            IT.due("15: field " + other, BAD, x.claim(0, other, 0));
        }
        IT.due("15: bad ahead of not", BAD, x.claim(1, field, 8));
        IT.due("15: none", 0, x.count(4));
    }

    /** "FIELDS that it HOLDS on the CLAIM's DAY"; "NOT: the FARM does not HOLD it TODAY AS KNOWN TODAY". */
    private static void heldThatDay() {
        AcresPaid x = farms(2);
        int field = Checks.field(x, 0, 0, 0, 1, 1);
        x.handOver(field, 1, 2);
        x.days(1);
        IT.due("15: the day ahead", 1, x.claim(0, field, 0));
        IT.due("15: not yet", NOT, x.claim(1, field, 0));
        x.days(1);
        IT.due("15: no more", NOT, x.claim(0, field, 0));
        IT.due("15: from that day on", 2, x.claim(1, field, 0));
        IT.due("15: refused ones are none", 2, x.count(4));
        IT.due("15: the one that is claimed is held", 0, x.counted(0, field, 0, 2, 0));
        x.handOver(field, 0, 2);
        IT.due("15: told today", 3, x.claim(0, field, 0));
        IT.due("15: and held no more", NOT, x.claim(1, field, 0));
    }

    /** What is held counts on the claim's day, as known then: it goes on to count. */
    private static void claimsStayWhenLandChangesHands() {
        AcresPaid x = farms(2);
        int field = Checks.field(x, 0, 0, 0, 2, 2);
        x.claim(0, field, 5);
        x.days(1);
        x.handOver(field, 1, 0);
        IT.due("15: handed over since, of that day too", 4, x.counted(0, field, 0, 1, 0));
        IT.due("15: the other has no claim", NOT, x.counted(1, field, 0, 1, 0));
        IT.due("15: not held any more", NOT, x.claim(0, field, 5));
        IT.due("15: the other claims", 2, x.claim(1, field, 5));
        IT.due("15: both claim it", 0, x.counted(0, field, 0, 1, 0));
        IT.due("15: all in fault", 4, x.counted(1, field, 0, 1, 3));
    }

    private static void notOfFieldsGivenUp() {
        AcresPaid x = farms(2);
        int field = Checks.field(x, 0, 0, 0, 1, 1);
        x.giveUp(field);
        IT.due("15: given up that day", NOT, x.claim(0, field, 0));
        IT.due("15: bad ahead of it", BAD, x.claim(0, field, 9));
        x.handOver(field, 1, 0);
        IT.due("15: given up by another", NOT, x.claim(1, field, 0));
        x.days(365);
        IT.due("15: in a later year", NOT, x.claim(1, field, 0));
        IT.due("15: none", 0, x.count(4));
    }

    /** "at most 300 CLAIMS in all". */
    private static void threeHundredClaims() {
        AcresPaid x = farms(2);
        int field = Checks.field(x, 0, 0, 0, 2, 2);
        int meadow = Checks.meadow(x, 0, 4, 4, 6, 6);
        for (int i = 1; i <= 298; i++) {
            x.claim(0, field, 1);
        }
        x.days(365);
        IT.due("15: the 299th", 299, x.claim(0, field, 2));
        IT.due("15: the 300th", 300, x.claim(0, meadow, 0));
        IT.due("15: the 301st", FULL, x.claim(0, field, 3));
        IT.due("15: not ahead of full", NOT, x.claim(1, field, 3));
        IT.due("15: bad ahead of full", BAD, x.claim(0, meadow, 3));
        IT.due("15: 300", 300, x.count(4));
        IT.due("15: the 299th counts", 2, x.counted(0, field, 1, 365, 2));
        IT.due("15: the 300th counts", 4, x.counted(0, meadow, 1, 365, 0));
        IT.due("15: those of year 0 count", 1, x.counted(0, field, 0, 365, 2));
    }

    /** "of one FARM, FIELD and YEAR the one made last counts". */
    private static void theLastMadeCounts() {
        AcresPaid x = farms(2);
        int field = Checks.field(x, 0, 0, 0, 2, 2);
        int other = Checks.field(x, 0, 4, 4, 6, 6);
        x.days(363);
        x.claim(0, field, 7);
        x.claim(0, other, 6);
        x.days(1);
        x.claim(0, field, 5);
        x.claim(0, field, 4);
        x.days(1);
        x.claim(0, field, 3);
        IT.due("15: of one day the last", 4, x.counted(0, field, 0, 365, 2));
        IT.due("15: as known the day ahead", 7, x.counted(0, field, 0, 363, 2));
        IT.due("15: as known that day", 4, x.counted(0, field, 0, 364, 2));
        IT.due("15: of another year another", 3, x.counted(0, field, 1, 365, 2));
        IT.due("15: of another field another", 6, x.counted(0, other, 0, 365, 2));
        IT.due("15: its day counts for late", 364 - 135, x.counted(0, field, 0, 365, 4));
        IT.due("15: and known earlier that of the earlier one", 363 - 135, x.counted(0, field, 0, 363, 4));
        IT.due("15: once, not three times", 4 + 4, x.named(0, 0, 365, 2));
    }

    /** "CLOSE (told, 0 .. 364; 135 at first)"; "CLOSE of a LAND becomes v: what it was. BAD". */
    private static void closesOfLands() {
        int[][] want = {{MIN, BAD}, {-1, BAD}, {0, 135}, {1, 135}, {363, 135}, {364, 135}, {365, BAD}, {MAX, BAD}};
        for (int land = 0; land < 4; land++) {
            for (int[] w : want) {
                AcresPaid x = new AcresPaid();
                IT.due("16: close(" + land + ", " + w[0] + ")", w[1], x.close(land, w[0]));
                for (int other = 0; other < 4; other++) {
                    IT.due("16: of land " + other, other == land && w[1] != BAD ? w[0] : 135, x.close(other, 7));
                }
            }
        }
        for (int land : new int[] {MIN, -1, 4, MAX}) {
            IT.due("16: land " + land, BAD, new AcresPaid().close(land, 0));
        }
    }

    /** "LATE is a CLAIM by its DATE less the CLOSE of its FARM's LAND (.. as it is now), 0 at least". */
    private static void lateByDateLessClose() {
        for (int land = 0; land < 4; land++) {
            AcresPaid x = farms(4);
            int[] fields = new int[3];
            for (int i = 0; i < 3; i++) {
                fields[i] = Checks.field(x, land, 4 * i, 0, 4 * i + 1, 1);
            }
            x.days(134);
            for (int i = 0; i < 3; i++) {
                x.claim(land, fields[i], 0);
                x.days(1);
            }
            int[][] want = {{135, 0, 0, 1}, {134, 0, 1, 2}, {136, 0, 0, 0}, {0, 134, 135, 136}, {364, 0, 0, 0}, {133, 1, 2, 3}};
            for (int[] w : want) {
                x.close(land, w[0]);
                x.close((land + 1) % 4, 100);
                for (int i = 0; i < 3; i++) {
                    IT.due("16: close " + w[0] + ", claimed on " + (134 + i), w[i + 1], x.counted(land, fields[i], 0, 137, 4));
                }
            }
            x.close(land, 365);
            IT.due("16: a refused close changes nothing", 3, x.counted(land, fields[2], 0, 137, 4));
        }
    }

    /** "it is IN claimed FIELDS of two or more FARMS (claims that count)". */
    private static void squaresOfTwoFarms() {
        AcresPaid x = farms(3);
        int a = Checks.field(x, 0, 0, 0, 4, 1);
        int same = Checks.field(x, 0, 3, 0, 6, 1);
        int b = Checks.field(x, 1, 3, 0, 5, 1);
        int c = Checks.field(x, 2, 3, 0, 4, 2);
        int beside = Checks.field(x, 1, 0, 1, 4, 2);
        x.claim(0, a, 0);
        x.claim(0, same, 0);
        IT.due("18: of one farm: no fault", 0, x.counted(0, a, 0, 0, 3));
        x.claim(1, b, 0);
        IT.due("18: of two", 1, x.counted(0, a, 0, 0, 3));
        IT.due("18: paid to neither", 3, x.counted(0, a, 0, 0, 0));
        IT.due("18: paid to neither", 0, x.counted(1, b, 0, 0, 0));
        x.claim(2, c, 0);
        IT.due("18: of three", 1, x.counted(2, c, 0, 0, 3));
        IT.due("18: the rest of the third", 1, x.counted(2, c, 0, 0, 0));
        x.claim(1, beside, 0);
        IT.due("18: side by side is no fault, but where the third lies", 1, x.counted(1, beside, 0, 0, 3));
        x.giveUp(b);
        IT.due("18: given up: of two still", 1, x.counted(0, a, 0, 0, 3));
        x.giveUp(c);
        IT.due("18: of one", 0, x.counted(0, a, 0, 0, 3));
        IT.due("18: side by side", 0, x.counted(1, beside, 0, 0, 3));
        x.days(365);
        x.claim(0, a, 0);
        IT.due("18: claims of another year are in no fault", 0, x.counted(0, a, 1, 365, 3));
    }

    /** "A square IN several claimed FIELDS of one FARM is paid once, for the FIELD with the least number". */
    private static void paidOnceForTheLeast() {
        AcresPaid x = farms(2);
        int a = Checks.field(x, 0, 0, 0, 3, 1);
        int b = Checks.field(x, 0, 1, 0, 4, 1);
        int c = Checks.meadow(x, 0, 0, 0, 5, 1);
        x.claim(0, c, 0);
        IT.due("18: alone", 5, x.counted(0, c, 0, 0, 0));
        x.claim(0, b, 0);
        IT.due("18: for the lesser, though claimed later", 3, x.counted(0, b, 0, 0, 0));
        IT.due("18: the rest", 2, x.counted(0, c, 0, 0, 0));
        x.claim(0, a, 0);
        IT.due("18: the least", 3, x.counted(0, a, 0, 0, 0));
        IT.due("18: the next", 1, x.counted(0, b, 0, 0, 0));
        IT.due("18: the last", 1, x.counted(0, c, 0, 0, 0));
        x.control(0, a, 0, 3);
        IT.due("18: not found there, and counted for no other", 1, x.counted(0, b, 0, 0, 0));
        IT.due("18: s", 5, x.named(0, 0, 0, 2));
        x.out(0, 0, 0);
        IT.due("18: out for all", 2, x.counted(0, a, 0, 0, 0));
        IT.due("18: out for all", 1, x.counted(0, c, 0, 0, 0));
        x.handOver(b, 1, 0);
        x.claim(1, b, 0);
        IT.due("18: in fault for all", 0, x.counted(0, a, 0, 0, 0));
        IT.due("18: the last has its end", 1, x.counted(0, c, 0, 0, 0));
    }

    /** "(a, b: 100 times x, and y; 0 .. 23)"; "BAD (x0 above x1, y0 above y1)". */
    private static void cornersOfOuts() {
        int[] places = {MIN, -100, -1, 0, 1, 22, 23, 24, 99, 100, 123, 124, 2200, 2299, 2300, 2322, 2323, 2324, 2399, 2400, 2423, MAX};
        for (int a : places) {
            for (int b : places) {
                boolean good = a >= 0 && b >= 0 && a / 100 <= b / 100 && a % 100 <= b % 100 && b / 100 <= 23 && b % 100 <= 23;
                AcresPaid x = new AcresPaid();
                IT.due("17: out(" + a + ", " + b + ")", good ? 1 : BAD, x.out(a, b, 0));
            }
        }
    }

    /** "squares from x0, y0 to x1, y1": the last ones too. */
    private static void rowsAndColumnsOut() {
        int[][] want = {{0, 0, 1}, {0, 2323, 576}, {0, 2300, 24}, {0, 23, 24}, {2300, 2323, 24}, {23, 2323, 24}, {2323, 2323, 1}, {305, 407, 6},
            {305, 305, 1}, {304, 307, 4}, {305, 705, 5}};
        for (int[] w : want) {
            AcresPaid x = farms(1);
            int all = Checks.field(x, 0, 0, 0, 24, 24);
            x.claim(0, all, 0);
            x.out(w[0], w[1], 0);
            IT.due("17: out(" + w[0] + ", " + w[1] + ")", 576 - w[2], x.counted(0, all, 0, 0, 0));
            x.out(w[0], w[1], 0);
            IT.due("17: out twice", 576 - w[2], x.counted(0, all, 0, 0, 0));
        }
        AcresPaid x = farms(1);
        int field = Checks.field(x, 0, 3, 5, 5, 8);
        x.claim(0, field, 0);
        x.out(0, 223, 0);
        x.out(500, 2323, 0);
        x.out(4, 2304, 0);
        x.out(8, 2308, 0);
        IT.due("17: all around it, nothing of it", 6, x.counted(0, field, 0, 0, 0));
    }

    /** "out in YEARS whose first DAY is that DAY or behind it". */
    private static void outFromADay() {
        int[][] want = {{0, 0}, {1, 1}, {364, 1}, {365, 1}, {366, 2}, {730, 2}, {731, 3}, {2920, 8}, {3284, 9}, {3285, 9}, {3286, 10}, {3649, 10}};
        for (int[] w : want) {
            AcresPaid x = farms(1);
            int field = Checks.field(x, 0, 0, 0, 2, 1);
            IT.due("17: from " + w[0] + " on", 1, x.out(0, 0, w[0]));
            for (int year = 0; year < 10; year++) {
                x.claim(0, field, 0);
                int due = year >= w[1] ? 1 : 2;
                IT.due("17: from " + w[0] + " on, in " + year, due, x.counted(0, field, year, 365 * year, 0));
                x.days(365);
            }
        }
        int[][] days = {{MIN, BAD}, {-1, BAD}, {0, 1}, {3649, 1}, {3650, BAD}, {MAX, BAD}};
        for (int[] d : days) {
            IT.due("17: day " + d[0], d[1], new AcresPaid().out(0, 0, d[0]));
        }
    }

    /** "told TODAY: out .. AS KNOWN". */
    private static void outAsKnown() {
        AcresPaid x = farms(1);
        int field = Checks.field(x, 0, 0, 0, 2, 1);
        x.claim(0, field, 0);
        x.days(10);
        x.out(0, 0, 0);
        IT.due("17: as known the day ahead", 2, x.counted(0, field, 0, 9, 0));
        IT.due("17: as known that day", 1, x.counted(0, field, 0, 10, 0));
        IT.due("17: as known the day behind", 1, x.counted(0, field, 0, 11, 0));
    }

    /** "how many there are. .. FULL: 40". */
    private static void fortyOuts() {
        AcresPaid x = farms(1);
        int field = Checks.field(x, 0, 0, 0, 24, 24);
        x.claim(0, field, 0);
        for (int i = 1; i <= 40; i++) {
            IT.due("17: so many", i, x.out(100 * (i % 24) + i / 24, 100 * (i % 24) + i / 24, 0));
        }
        IT.due("17: forty are out", 536, x.counted(0, field, 0, 0, 0));
        IT.due("17: the 41st", FULL, x.out(0, 2323, 0));
        IT.due("17: bad ahead of full", BAD, x.out(100, 0, 0));
        IT.due("17: bad ahead of full", BAD, x.out(0, 0, 3650));
        IT.due("17: nothing has changed", 536, x.counted(0, field, 0, 0, 0));
    }

    private static void countedArguments() {
        AcresPaid x = farms(2);
        int field = Checks.field(x, 0, 0, 0, 2, 2);
        int other = Checks.field(x, 0, 4, 4, 6, 6);
        int permit = x.permit(2);
        x.claim(0, field, 6);
        int[] good = {4, 4, 6, 0, 0};
        for (int what = -1; what <= 5; what++) {
            IT.due("18: what " + what, what < 0 || what > 4 ? BAD : good[what], x.counted(0, field, 0, 0, what));
            IT.due("18: bad ahead of not", what < 0 || what > 4 ? BAD : NOT, x.counted(1, field, 0, 0, what));
        }
        for (int year : new int[] {MIN, -1, 0, 1, 9, 10, MAX}) {
            IT.due("18: year " + year, year == 0 ? 4 : year == 1 || year == 9 ? NOT : BAD, x.counted(0, field, year, 0, 0));
        }
        for (int k : new int[] {MIN, -1, 0, 1, 3649, 3650, MAX}) {
            IT.due("18: k " + k, k >= 0 && k <= 3649 ? 4 : BAD, x.counted(0, field, 0, k, 0));
        }
        for (int farm : new int[] {MIN, -1, field, permit, 5, MAX}) {
            IT.due("18: farm " + farm, BAD, x.counted(farm, field, 0, 0, 0));
        }
        for (int body : new int[] {MIN, -1, 0, permit, 5, MAX}) {
            IT.due("18: field " + body, BAD, x.counted(0, body, 0, 0, 0));
        }
        IT.due("18: not claimed", NOT, x.counted(0, other, 0, 0, 0));
    }

    /** What is told by k counts; a field given up by then is claimed no more. */
    private static void countedAsKnown() {
        AcresPaid x = farms(1);
        int field = Checks.field(x, 0, 0, 0, 2, 2);
        x.days(10);
        x.claim(0, field, 6);
        x.days(10);
        x.giveUp(field);
        int[][] want = {{9, NOT}, {10, 4}, {19, 4}, {20, NOT}, {21, NOT}};
        for (int[] w : want) {
            for (int what = 0; what < 3; what++) {
                int due = w[1] == NOT ? NOT : what == 2 ? 6 : 4;
                IT.due("18: as known on " + w[0], due, x.counted(0, field, 0, w[0], what));
            }
        }
    }

    /** Tells one thing of a country of two farms with fields 2, 3 and 4, of which 2 and 3 are claimed. */
    private static void tell(AcresPaid x, int what) {
        switch (what) {
            case 0:
                x.body();
                break;
            case 1:
                x.giveUp(3);
                break;
            case 2:
                x.claim(1, 4, 0);
                break;
            case 3:
                x.out(0, 0, 0);
                break;
            default:
                x.control(0, 2, 0, 3);
                break;
        }
    }

    private static AcresPaid twoClaims() {
        AcresPaid x = farms(2);
        Checks.field(x, 0, 0, 0, 6, 1);
        Checks.field(x, 0, 4, 0, 8, 1);
        Checks.field(x, 1, 1, 0, 3, 1);
        x.claim(0, 2, 0);
        x.claim(0, 3, 0);
        return x;
    }

    /** What was asked ahead of telling changes nothing of what is answered behind it. */
    private static void toldBetweenTwoQuestions() {
        for (int a = 0; a < 5; a++) {
            for (int b = 0; b < 5; b++) {
                AcresPaid x = twoClaims();
                AcresPaid y = twoClaims();
                x.named(0, 0, 0, 2);
                tell(x, a);
                tell(x, b);
                tell(y, a);
                tell(y, b);
                for (int name = 2; name <= 8; name++) {
                    IT.due("28: told " + a + ", " + b + ", name " + name, y.named(0, 0, 0, name), x.named(0, 0, 0, name));
                }
                boolean upThird = a == 1 || b == 1, fourth = a == 2 || b == 2, out = a == 3 || b == 3, control = a == 4 || b == 4;
                int counted = 6 - (fourth ? 2 : 0) - (out ? 1 : 0);
                IT.due("18: counted", counted, x.counted(0, 2, 0, 0, 0));
                IT.due("18: found", counted - (control ? 3 : 0), x.counted(0, 2, 0, 0, 1));
                IT.due("18: the other", upThird ? NOT : 2, x.counted(0, 3, 0, 0, 0));
                IT.due("33: least", fourth ? 2 : 0, x.least(0));
            }
        }
    }

    /** "missing (told .. 0 .. 576; .. held at COUNTED)". */
    private static void missingSquares() {
        int[][] want = {{MIN, BAD, 12}, {-1, BAD, 12}, {0, 1, 12}, {1, 1, 11}, {11, 1, 1}, {12, 1, 0}, {13, 1, 0}, {575, 1, 0}, {576, 1, 0}, {577, BAD, 12},
            {MAX, BAD, 12}};
        for (int[] w : want) {
            AcresPaid x = farms(1);
            int field = Checks.field(x, 0, 0, 0, 4, 3);
            x.claim(0, field, 0);
            IT.due("19: missing " + w[0], w[1], x.control(0, field, 0, w[0]));
            IT.due("19: found", w[2], x.counted(0, field, 0, 0, 1));
            IT.due("19: counted all the same", 12, x.counted(0, field, 0, 0, 0));
            IT.due("19: so many controls", w[1] == BAD ? 0 : 1, x.count(6));
        }
        AcresPaid all = farms(1);
        int grid = Checks.field(all, 0, 0, 0, 24, 24);
        all.claim(0, grid, 0);
        all.control(0, grid, 0, 575);
        IT.due("19: all but 575", 1, all.counted(0, grid, 0, 0, 1));
        all.out(0, 0, 0);
        IT.due("19: held at what is counted now", 0, all.counted(0, grid, 0, 0, 1));
    }

    /** "told TODAY ..; the latest counts". */
    private static void theLatestControl() {
        AcresPaid x = farms(1);
        int field = Checks.field(x, 0, 0, 0, 4, 3);
        int other = Checks.field(x, 0, 5, 0, 9, 3);
        x.claim(0, field, 0);
        x.claim(0, other, 0);
        x.days(10);
        x.control(0, field, 0, 5);
        x.control(0, field, 0, 3);
        x.days(10);
        x.control(0, field, 0, 0);
        int[][] want = {{9, 12}, {10, 9}, {19, 9}, {20, 12}, {21, 12}};
        for (int[] w : want) {
            IT.due("19: as known on " + w[0], w[1], x.counted(0, field, 0, w[0], 1));
            IT.due("19: the other field", 12, x.counted(0, other, 0, w[0], 1));
        }
    }

    private static void controlArguments() {
        AcresPaid x = farms(2);
        int field = Checks.field(x, 0, 0, 0, 4, 3);
        int permit = x.permit(3);
        x.claim(0, field, 0);
        for (int year : new int[] {MIN, -1, 10, MAX}) {
            IT.due("19: year " + year, BAD, x.control(0, field, year, 0));
        }
        for (int year = 1; year <= 9; year++) {
            IT.due("19: no claim of year " + year, NOT, x.control(0, field, year, 0));
        }
        for (int farm : new int[] {MIN, -1, field, permit, 4, MAX}) {
            IT.due("19: farm " + farm, BAD, x.control(farm, field, 0, 0));
        }
        for (int body : new int[] {MIN, -1, 0, permit, 4, MAX}) {
            IT.due("19: field " + body, BAD, x.control(0, body, 0, 0));
        }
        IT.due("19: another farm", NOT, x.control(1, field, 0, 0));
        IT.due("19: bad ahead of not", BAD, x.control(1, field, 0, 577));
        IT.due("19: none", 0, x.count(6));
        IT.due("19: found", 12, x.counted(0, field, 0, 0, 1));
    }

    /** "NOT: there is none that counts TODAY". */
    private static void controlsByClaim() {
        AcresPaid x = farms(2);
        int field = Checks.field(x, 0, 0, 0, 4, 3);
        IT.due("19: none yet", NOT, x.control(0, field, 0, 1));
        x.claim(0, field, 0);
        x.handOver(field, 1, 0);
        IT.due("19: handed over, its claim counts", 1, x.control(0, field, 0, 1));
        IT.due("19: the holder has none", NOT, x.control(1, field, 0, 1));
        x.days(365);
        IT.due("19: of a year behind", 2, x.control(0, field, 0, 2));
        IT.due("19: none of this year", NOT, x.control(0, field, 1, 2));
        x.giveUp(field);
        IT.due("19: given up today", NOT, x.control(0, field, 0, 3));
        IT.due("19: as known ahead of the second", 11, x.counted(0, field, 0, 364, 1));
        IT.due("19: two", 2, x.count(6));
    }

    /** "how many there are. .. FULL: 200". */
    private static void twoHundredControls() {
        AcresPaid x = farms(2);
        int field = Checks.field(x, 0, 0, 0, 4, 3);
        int other = Checks.field(x, 1, 10, 10, 14, 13);
        x.claim(0, field, 0);
        x.claim(1, other, 0);
        for (int i = 1; i <= 198; i++) {
            x.control(0, field, 0, 12);
        }
        IT.due("19: the 199th", 199, x.control(1, other, 0, 4));
        IT.due("19: the 200th", 200, x.control(0, field, 0, 5));
        IT.due("19: the 201st", FULL, x.control(0, field, 0, 6));
        IT.due("19: full for another too", FULL, x.control(1, other, 0, 6));
        IT.due("19: not ahead of full", NOT, x.control(0, other, 0, 6));
        IT.due("19: bad ahead of full", BAD, x.control(0, field, 0, -1));
        IT.due("19: 200", 200, x.count(6));
        IT.due("19: the 199th counts", 8, x.counted(1, other, 0, 0, 1));
        IT.due("19: the 200th counts", 7, x.counted(0, field, 0, 0, 1));
    }

    /** "MAJEURE of a FARM for a YEAR is proved TODAY: 1. BAD; NOT: it was". */
    private static void majeureYears() {
        for (int year : new int[] {MIN, -1, 0, 1, 8, 9, 10, MAX}) {
            AcresPaid x = farms(2);
            boolean good = 0 <= year && year <= 9;
            IT.due("20: year " + year, good ? 1 : BAD, x.majeure(1, year));
            IT.due("20: once more", good ? NOT : BAD, x.majeure(1, year));
            for (int other = 0; other < 10; other++) {
                IT.due("20: proved for " + other, good && other == year ? 1 : 0, x.named(1, other, 0, 11));
                IT.due("20: not of farm 0", 0, x.named(0, other, 0, 11));
            }
            IT.due("20: farm 0's own", good ? 1 : BAD, x.majeure(0, year));
        }
        AcresPaid x = farms(1);
        Checks.field(x, 0, 0, 0, 1, 1);
        for (int farm : new int[] {MIN, -1, 1, 2, 150, MAX}) {
            IT.due("20: farm " + farm, BAD, x.majeure(farm, 0));
        }
    }

    /** "MAJEURE of a FARM for a YEAR: proved on the DAY of telling". */
    private static void majeureAsKnown() {
        for (int day : new int[] {0, 1, 3649}) {
            AcresPaid x = farms(1);
            Checks.toDay(x, day);
            x.majeure(0, 4);
            IT.due("20: the day ahead", day == 0 ? BAD : 0, x.named(0, 4, day - 1, 11));
            IT.due("20: that day", 1, x.named(0, 4, day, 11));
            x.days(1);
            IT.due("20: proved again: it was", NOT, x.majeure(0, 4));
            IT.due("20: the day stays", 1, x.named(0, 4, day, 11));
        }
    }
}
