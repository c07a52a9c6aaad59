/** Promises 3, 4, 9, 10 and 12 to 14, and Terms 1 on bodies and holders: each sentence that names a bound, by a test of its own. */
public final class BoundsBodiesTest {
    private static final int MIN = Integer.MIN_VALUE, MAX = Integer.MAX_VALUE;
    private static final int BAD = -1, NOT = -2, FULL = -3, VOID = -2000000000;
    private static final Checks IT = new Checks("bounds of bodies");

    public static void main(String[] args) {
        bodiesTo149();
        kindsOfFarm();
        landsOfFarm();
        valuesOfPermit();
        whatOfBodies();
        noSuchBody();
        toldOnADay();
        givenUpOnADay();
        onlyFieldsAreGivenUp();
        twoHundredHandovers();
        handOverDays();
        handOverBodies();
        holderDays();
        forThatDayOrAnEarlier();
        toldByK();
        alsoOfPastDays();
        theLatestThenTheLastTold();
        withoutAny();
        holderToday();
        IT.end();
    }

    private static int make(AcresPaid x, int what) {
        switch (what) {
            case 0:
                return x.body();
            case 1:
                return x.farm(7, 3);
            case 2:
                return Checks.field(x, 0, 1, 1, 2, 2);
            case 3:
                return Checks.meadow(x, 0, 1, 1, 2, 2);
            default:
                return x.permit(999);
        }
    }

    /** "BODIES 0 .. 149, as they come". */
    private static void bodiesTo149() {
        int[] kinds = {0, 7, 4, 5, 6};
        for (int what = 0; what < 5; what++) {
            AcresPaid x = new AcresPaid();
            x.farm(1, 0);
            for (int i = 1; i < 148; i++) {
                x.body();
            }
            IT.due("3: number 148", 148, make(x, what));
            IT.due("3: number 149", 149, make(x, what));
            IT.due("3: its kind", kinds[what], x.ofBody(149, 0));
            for (int other = 0; other < 5; other++) {
                IT.due("3: full", FULL, make(x, other));
                x.uncorner();
            }
            IT.due("3: 150", 150, x.count(0));
            IT.due("3: no 151st", VOID, x.ofBody(150, 0));
            IT.due("4: bad ahead of full", BAD, x.farm(4, 0));
            IT.due("9: bad ahead of full", BAD, x.permit(1000));
            int[] two = {what == 1 ? 3 : 1, what == 2 || what == 3 ? 2 : 0, what == 4 ? 2 : 0};
            for (int i = 0; i < 3; i++) {
                IT.due("3: counted by kind " + i, two[i], x.count(i + 1));
            }
        }
    }

    /** "A FARM (1), YOUNG (2), SMALL (3), HEIR (7)". */
    private static void kindsOfFarm() {
        AcresPaid x = new AcresPaid();
        int came = 0;
        for (int kind = -2; kind <= 9; kind++) {
            boolean farm = kind >= 1 && kind <= 3 || kind == 7;
            IT.due("4: kind " + kind, farm ? came : BAD, x.farm(kind, 2));
            if (farm) {
                IT.due("4: its kind", kind, x.ofBody(came, 0));
                IT.due("4: its land", 2, x.ofBody(came, 1));
                came++;
            }
            IT.due("4: so many", came, x.count(1));
            IT.due("4: so many bodies", came, x.count(0));
        }
        IT.due("4: MIN", BAD, x.farm(MIN, 0));
        IT.due("4: MAX", BAD, x.farm(MAX, 0));
    }

    /** "a LAND 0 .. 3". */
    private static void landsOfFarm() {
        int[][] want = {{MIN, BAD}, {-1, BAD}, {0, 0}, {1, 0}, {2, 0}, {3, 0}, {4, BAD}, {MAX, BAD}};
        for (int[] w : want) {
            AcresPaid x = new AcresPaid();
            IT.due("4: land " + w[0], w[1], x.farm(1, w[0]));
            IT.due("4: as told", w[1] == BAD ? VOID : w[0], x.ofBody(0, 1));
            IT.due("4: so many", w[1] == BAD ? 0 : 1, x.count(0));
        }
    }

    /** "VALUE (1 .. 999 coins a square)". */
    private static void valuesOfPermit() {
        int[][] want = {{MIN, BAD}, {-1, BAD}, {0, BAD}, {1, 0}, {2, 0}, {998, 0}, {999, 0}, {1000, BAD}, {MAX, BAD}};
        for (int[] w : want) {
            AcresPaid x = new AcresPaid();
            IT.due("9: permit(" + w[0] + ")", w[1], x.permit(w[0]));
            IT.due("9: its value", w[1] == BAD ? VOID : w[0], x.ofBody(0, 1));
            IT.due("9: so many", w[1] == BAD ? 0 : 1, x.count(3));
            IT.due("9: the next is a body", w[1] == BAD ? 0 : 1, x.body());
        }
    }

    /** A body of each kind: its number is its kind. */
    private static AcresPaid kinds() {
        AcresPaid x = new AcresPaid();
        x.body();
        x.farm(1, 0);
        x.farm(2, 1);
        x.farm(3, 3);
        Checks.field(x, 1, 0, 0, 2, 3);
        Checks.meadow(x, 2, 4, 4, 5, 6);
        x.permit(40);
        x.farm(7, 2);
        return x;
    }

    /** "0 KIND; of FARMS: 1 LAND; of FIELDS: 1 AREA, 2 .., 3 .., 4 ..; of PERMITS: 1 VALUE, 4 HOLDER likewise (-1). VOID: BAD". */
    private static void whatOfBodies() {
        AcresPaid x = kinds();
        int[][] want = {{0, VOID, VOID, VOID, VOID}, {1, 0, VOID, VOID, VOID}, {2, 1, VOID, VOID, VOID}, {3, 3, VOID, VOID, VOID},
            {4, 6, 0, -1, 1}, {5, 2, 0, -1, 2}, {6, 40, VOID, VOID, -1}, {7, 2, VOID, VOID, VOID}};
        for (int body = 0; body < 8; body++) {
            for (int what = -1; what <= 5; what++) {
                int due = what < 0 || what > 4 ? VOID : want[body][what];
                IT.due("10: ofBody(" + body + ", " + what + ")", due, x.ofBody(body, what));
            }
            IT.due("10: MIN", VOID, x.ofBody(body, MIN));
            IT.due("10: MAX", VOID, x.ofBody(body, MAX));
        }
    }

    private static void noSuchBody() {
        AcresPaid x = kinds();
        for (int what = 0; what <= 4; what++) {
            IT.due("10: body -1", VOID, x.ofBody(-1, what));
            IT.due("10: body 8", VOID, x.ofBody(8, what));
            IT.due("10: body 150", VOID, x.ofBody(150, what));
            IT.due("10: MIN", VOID, x.ofBody(MIN, what));
            IT.due("10: MAX", VOID, x.ofBody(MAX, what));
        }
        IT.due("10: none at all", VOID, new AcresPaid().ofBody(0, 0));
    }

    /** "told on a DAY". */
    private static void toldOnADay() {
        for (int day : new int[] {0, 1, 365, 3648, 3649}) {
            AcresPaid x = new AcresPaid();
            x.farm(1, 0);
            Checks.toDay(x, day);
            int field = Checks.field(x, 0, 0, 0, 1, 1);
            IT.due("10: told on " + day, day, x.ofBody(field, 2));
            x.days(1);
            IT.due("10: that day, a day later too", day, x.ofBody(field, 2));
        }
    }

    /** "given up on a DAY (-1: not)"; "1 .. NOT: it was". */
    private static void givenUpOnADay() {
        for (int day : new int[] {0, 1, 3648, 3649}) {
            AcresPaid x = new AcresPaid();
            x.farm(1, 0);
            int field = Checks.field(x, 0, 0, 0, 1, 1);
            int other = Checks.meadow(x, 0, 0, 0, 1, 1);
            Checks.toDay(x, day);
            IT.due("10: not given up", -1, x.ofBody(field, 3));
            IT.due("12: given up", 1, x.giveUp(field));
            IT.due("10: on that day", day, x.ofBody(field, 3));
            IT.due("12: it was, that day", NOT, x.giveUp(field));
            x.days(1);
            IT.due("12: it was", NOT, x.giveUp(field));
            IT.due("10: the day stays", day, x.ofBody(field, 3));
            IT.due("10: the other is not", -1, x.ofBody(other, 3));
            IT.due("12: a meadow", 1, x.giveUp(other));
            IT.due("10: its holder stays", 0, x.ofBody(field, 4));
            IT.due("13: one given up is handed over too", 1, x.handOver(field, 0, 0));
        }
    }

    private static void onlyFieldsAreGivenUp() {
        AcresPaid x = kinds();
        for (int body : new int[] {0, 1, 2, 3, 6, 7, 8, -1, 150, MIN, MAX}) {
            IT.due("12: giveUp(" + body + ")", BAD, x.giveUp(body));
        }
        IT.due("12: no field was given up", -1, x.ofBody(4, 3));
        IT.due("12: no meadow was given up", -1, x.ofBody(5, 3));
    }

    /** "HANDOVERS told (at most 200 in all)". */
    private static void twoHundredHandovers() {
        AcresPaid x = kinds();
        for (int i = 1; i <= 198; i++) {
            x.handOver(4 + i % 3, 1, 0);
        }
        IT.due("13: the 199th", 199, x.handOver(4, 2, 0));
        IT.due("13: the 200th", 200, x.handOver(6, 3, 0));
        IT.due("13: the 201st", FULL, x.handOver(4, 7, 0));
        IT.due("13: full for permits too", FULL, x.handOver(6, 7, 3649));
        IT.due("13: bad ahead of full", BAD, x.handOver(0, 7, 0));
        IT.due("13: bad ahead of full", BAD, x.handOver(4, 0, 0));
        IT.due("13: bad ahead of full", BAD, x.handOver(4, 7, 3650));
        IT.due("13: 200", 200, x.count(5));
        IT.due("13: the 199th counts", 2, x.holder(4, 3649, 0));
        IT.due("13: the 200th counts, no later one", 3, x.holder(6, 3649, 0));
    }

    /** "from a DAY (0 .. 3649) on". */
    private static void handOverDays() {
        int[][] want = {{MIN, BAD}, {-1, BAD}, {0, 1}, {1, 1}, {3648, 1}, {3649, 1}, {3650, BAD}, {MAX, BAD}};
        for (int[] w : want) {
            AcresPaid x = kinds();
            IT.due("13: from " + w[0] + " on", w[1], x.handOver(6, 7, w[0]));
            IT.due("13: so many", w[1] == BAD ? 0 : 1, x.count(5));
            IT.due("13: holder on the last day", w[1] == BAD ? NOT : 7, x.holder(6, 3649, 0));
            if (w[1] == 1) {
                IT.due("13: holder from that day on", 7, x.holder(6, w[0], 0));
                IT.due("13: not the day ahead", w[0] == 0 ? BAD : NOT, x.holder(6, w[0] - 1, 0));
            }
        }
    }

    /** "A HANDOVER of a FIELD or PERMIT to a FARM". */
    private static void handOverBodies() {
        for (int body = -1; body <= 8; body++) {
            for (int farm = -1; farm <= 8; farm++) {
                AcresPaid x = kinds();
                boolean held = body >= 4 && body <= 6;
                boolean isFarm = farm >= 1 && farm <= 3 || farm == 7;
                IT.due("13: of " + body + " to " + farm, held && isFarm ? 1 : BAD, x.handOver(body, farm, 0));
                IT.due("13: so many", held && isFarm ? 1 : 0, x.count(5));
            }
        }
    }

    /** "HOLDER on a DAY AS KNOWN on k; NOT: none. BAD". */
    private static void holderDays() {
        AcresPaid x = kinds();
        int[] edges = {MIN, -1, 0, 1, 3648, 3649, 3650, MAX};
        for (int day : edges) {
            for (int k : edges) {
                boolean good = 0 <= day && day <= 3649 && 0 <= k && k <= 3649;
                IT.due("14: of a field on " + day + " as known on " + k, good ? 1 : BAD, x.holder(4, day, k));
                IT.due("14: of a permit on " + day + " as known on " + k, good ? NOT : BAD, x.holder(6, day, k));
            }
        }
        for (int body : new int[] {MIN, -1, 0, 1, 2, 3, 7, 8, 150, MAX}) {
            IT.due("14: body " + body, BAD, x.holder(body, 0, 0));
        }
        IT.due("14: of a meadow", 2, x.holder(5, 0, 0));
    }

    /** "of those told by k, for that DAY or an earlier one". */
    private static void forThatDayOrAnEarlier() {
        AcresPaid x = kinds();
        x.handOver(4, 2, 100);
        x.handOver(6, 3, 0);
        IT.due("14: the day ahead", 1, x.holder(4, 99, 0));
        IT.due("14: that day", 2, x.holder(4, 100, 0));
        IT.due("14: the day behind", 2, x.holder(4, 101, 0));
        IT.due("14: long behind", 2, x.holder(4, 3649, 0));
        IT.due("14: from day 0 on", 3, x.holder(6, 0, 0));
    }

    private static void toldByK() {
        AcresPaid x = kinds();
        x.days(50);
        x.handOver(6, 3, 0);
        IT.due("14: known the day ahead", NOT, x.holder(6, 3649, 49));
        IT.due("14: known that day", 3, x.holder(6, 3649, 50));
        IT.due("14: known the day behind", 3, x.holder(6, 3649, 51));
        IT.due("14: known on the last day", 3, x.holder(6, 0, 3649));
    }

    /** "(told TODAY, also of past DAYS)". */
    private static void alsoOfPastDays() {
        AcresPaid x = kinds();
        Checks.toDay(x, 3649);
        IT.due("13: of day 0", 1, x.handOver(4, 3, 0));
        IT.due("14: of day 0 as known today", 3, x.holder(4, 0, 3649));
        IT.due("14: of day 0 as known yesterday", 1, x.holder(4, 0, 3648));
    }

    /** "the one for the latest DAY, of like ones told last". */
    private static void theLatestThenTheLastTold() {
        AcresPaid x = kinds();
        x.handOver(4, 2, 11);
        x.handOver(4, 3, 10);
        IT.due("14: the latest, though told first", 2, x.holder(4, 11, 0));
        IT.due("14: the one ahead of it", 3, x.holder(4, 10, 0));
        x.handOver(4, 7, 11);
        IT.due("14: of like ones told last", 7, x.holder(4, 11, 0));
        x.handOver(4, 1, 11);
        IT.due("14: the last told of three", 1, x.holder(4, 12, 0));
        IT.due("14: the other day's stays", 3, x.holder(4, 10, 0));
        x.handOver(4, 2, 0);
        x.handOver(4, 7, 0);
        IT.due("14: of like ones for day 0 told last", 7, x.holder(4, 0, 0));
        IT.due("14: another field's is another", 2, x.holder(5, 11, 0));
        IT.due("14: another body's is another", NOT, x.holder(6, 11, 0));
        x.days(1);
        x.handOver(4, 2, 11);
        IT.due("14: of like ones told last, as known", 2, x.holder(4, 11, 1));
        IT.due("14: as known ahead of it", 1, x.holder(4, 11, 0));
    }

    /** "without any the FARM told with it (a FIELD), none (a PERMIT)". */
    private static void withoutAny() {
        AcresPaid x = new AcresPaid();
        x.farm(1, 0);
        x.farm(1, 0);
        x.days(9);
        int field = Checks.field(x, 1, 0, 0, 1, 1);
        int permit = x.permit(4);
        IT.due("14: ahead of the day when it was told, too", 1, x.holder(field, 0, 0));
        IT.due("14: that day", 1, x.holder(field, 9, 9));
        IT.due("14: none", NOT, x.holder(permit, 9, 9));
        x.handOver(permit, 0, 9);
        IT.due("14: farm 0", 0, x.holder(permit, 9, 9));
        IT.due("14: none the day ahead", NOT, x.holder(permit, 8, 9));
    }

    /** "4 HOLDER TODAY AS KNOWN TODAY". */
    private static void holderToday() {
        AcresPaid x = kinds();
        x.handOver(4, 3, 1);
        x.handOver(6, 3, 1);
        IT.due("10: not today", 1, x.ofBody(4, 4));
        IT.due("10: none today", -1, x.ofBody(6, 4));
        x.days(1);
        IT.due("10: today", 3, x.ofBody(4, 4));
        IT.due("10: today", 3, x.ofBody(6, 4));
        x.handOver(4, 7, 0);
        IT.due("10: for an earlier day", 3, x.ofBody(4, 4));
        x.handOver(4, 7, 1);
        IT.due("10: told today", 7, x.ofBody(4, 4));
    }
}
