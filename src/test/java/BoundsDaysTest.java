/** Promises 1 and 2, and Terms 1 on days and years: each sentence that names a bound, by a test of its own. */
public final class BoundsDaysTest {
    private static final int MIN = Integer.MIN_VALUE, MAX = Integer.MAX_VALUE, BAD = -1, NOT = -2;
    private static final Checks IT = new Checks("bounds of days");

    public static void main(String[] args) {
        aNewObject();
        dayIsNoughtAtFirst();
        oneTo365();
        beyond3649();
        refusedDaysChangeNothing();
        yearIsDayBy365();
        dateIsTheRest();
        IT.end();
    }

    /** "DAY 0, no bodies, no texts", and what the terms tell as "at first". */
    private static void aNewObject() {
        AcresPaid x = new AcresPaid();
        for (int what = 0; what <= 11; what++) {
            IT.due("1: count(" + what + ")", 0, x.count(what));
        }
        for (int what = 0; what < 40; what += what % 10 == 3 ? 7 : 1) {
            IT.due("1: no text for " + what, NOT, x.inForce(what, 9, 3649));
        }
        for (int shelf = 0; shelf < 6; shelf++) {
            IT.due("1: nothing on shelf " + shelf, -11, x.taken(shelf, 0));
        }
        for (int crop = 0; crop < 8; crop++) {
            IT.due("1: worth of " + crop, 0, x.worth(crop, 0));
            for (int week = 0; week < 6; week++) {
                IT.due("1: colour of " + crop + " in " + week, 0, x.colour(crop, week, 0));
            }
        }
        for (int land = 0; land < 4; land++) {
            IT.due("1: close of " + land, 135, x.close(land, 135));
        }
        IT.due("1: the blank", -1, x.blank(-1));
        IT.due("1: no ring", 0, x.uncorner());
        IT.due("1: no area for a mix", BAD, x.mix(100, 1));
        IT.due("1: an empty tape", -100, x.text(0, 0));
        int[] none = {x.given(0), x.drawn(0), x.mixed(0), x.trace(0), x.has(0, 0, 0), x.holder(0, 0, 0)};
        for (int answer : none) {
            IT.due("1: nothing given, drawn, mixed, run, no field", BAD, answer);
        }
        // z is 0 at first, as long as no lot was told
        AcresPaid y = new AcresPaid();
        AcresPaid z = new AcresPaid();
        z.lots(0);
        for (int i = 0; i < 40; i++) {
            y.farm(1, 0);
            z.farm(1, 0);
        }
        for (int i = 0; i < 40; i++) {
            y.claim(i, Checks.field(y, i, i % 24, i / 24, i % 24 + 1, i / 24 + 1), 0);
            z.claim(i, Checks.field(z, i, i % 24, i / 24, i % 24 + 1, i / 24 + 1), 0);
        }
        y.draw(0, 0, 9);
        z.draw(0, 0, 9);
        for (int i = 0; i < 9; i++) {
            IT.due("1: the lot's z is 0", z.drawn(i), y.drawn(i));
        }
    }

    private static void dayIsNoughtAtFirst() {
        AcresPaid x = new AcresPaid();
        IT.due("1: day 0", 0, x.count(7));
        IT.due("2: one goes by", 1, x.days(1));
    }

    /** "n (1 .. 365) DAYS go by". */
    private static void oneTo365() {
        int[][] want = {{MIN, BAD}, {-365, BAD}, {-1, BAD}, {0, BAD}, {1, 1}, {2, 2}, {364, 364}, {365, 365}, {366, BAD}, {MAX, BAD}};
        for (int[] w : want) {
            AcresPaid x = new AcresPaid();
            IT.due("2: days(" + w[0] + ")", w[1], x.days(w[0]));
            IT.due("2: the day then", Math.max(0, w[1]), x.count(7));
        }
    }

    private static AcresPaid on(int day) {
        AcresPaid x = new AcresPaid();
        Checks.toDay(x, day);
        return x;
    }

    /** "BAD (also beyond 3649)". */
    private static void beyond3649() {
        int[][] want = {{3284, 365, 3649}, {3285, 365, BAD}, {3285, 364, 3649}, {3285, 363, 3648}, {3648, 1, 3649}, {3648, 2, BAD},
            {3649, 1, BAD}, {3649, 365, BAD}, {3649, 0, BAD}, {3649, MAX, BAD}};
        for (int[] w : want) {
            AcresPaid x = on(w[0]);
            IT.due("2: on " + w[0] + " days(" + w[1] + ")", w[2], x.days(w[1]));
            IT.due("2: the day then", w[2] == BAD ? w[0] : w[2], x.count(7));
        }
    }

    private static void refusedDaysChangeNothing() {
        AcresPaid x = on(3600);
        int[] refused = {0, -1, 50, 365, 366, MIN, MAX};
        for (int n : refused) {
            IT.due("2: refused", BAD, x.days(n));
            IT.due("2: the day stays", 3600, x.count(7));
        }
        IT.due("2: up to the last day", 3649, x.days(49));
    }

    private static final int[] EDGES = {0, 1, 364, 365, 366, 729, 730, 3284, 3285, 3648, 3649};

    /** "a YEAR is DAY / 365 (0 .. 9)". */
    private static void yearIsDayBy365() {
        for (int day : EDGES) {
            AcresPaid x = new AcresPaid();
            x.farm(1, 0);
            int field = Checks.field(x, 0, 0, 0, 1, 1);
            Checks.toDay(x, day);
            x.claim(0, field, 3);
            for (int year = 0; year < 10; year++) {
                IT.due("T1: claimed on " + day + ", in " + year, year == day / 365 ? 3 : NOT, x.counted(0, field, year, day, 2));
            }
            IT.due("T1: settled up to this year", 0, x.settle(0, day / 365));
            IT.due("T1: no year to come", BAD, x.settle(0, day / 365 + 1));
        }
    }

    /** "a DATE DAY % 365". */
    private static void dateIsTheRest() {
        for (int day : EDGES) {
            AcresPaid x = new AcresPaid();
            x.farm(1, 0);
            x.close(0, 0);
            int field = Checks.field(x, 0, 0, 0, 1, 1);
            Checks.toDay(x, day);
            x.claim(0, field, 0);
            IT.due("T1: date of " + day, day % 365, x.counted(0, field, day / 365, day, 4));
        }
    }
}
