/** Promises 15 to 20: claims, closes, outs, squares counted, controls, majeure. */
public final class ClaimsTest {
    private static final Checks IT = new Checks("claims");

    public static void main(String[] args) {
        promise15();
        claimsFull();
        promise16();
        promise17();
        promise18();
        squaresOnce();
        faults();
        knowledge();
        promise19();
        promise20();
        IT.end();
    }

    private static void promise15() {
        AcresPaid x = new AcresPaid();
        x.farm(1, 0);
        x.farm(1, 0);
        int field = Checks.field(x, 0, 0, 0, 2, 2);
        int meadow = Checks.meadow(x, 0, 4, 4, 6, 6);
        IT.due("15: no farm", -1, x.claim(field, field, 0));
        IT.due("15: farm -1", -1, x.claim(-1, field, 0));
        IT.due("15: no field", -1, x.claim(0, 0, 0));
        IT.due("15: crop 8", -1, x.claim(0, field, 8));
        IT.due("15: crop -1", -1, x.claim(0, field, -1));
        IT.due("15: a meadow's crop", -1, x.claim(0, meadow, 1));
        IT.due("15: a meadow's crop is bad ahead of not held", -1, x.claim(1, meadow, 1));
        IT.due("15: not held", -2, x.claim(1, field, 0));
        IT.due("15: a claim", 1, x.claim(0, field, 7));
        IT.due("15: once more", 2, x.claim(0, field, 6));
        IT.due("15: the last counts", 6, x.counted(0, field, 0, 0, 2));
        IT.due("15: meadow", 3, x.claim(0, meadow, 0));
        x.handOver(field, 1, 0);
        IT.due("15: held today by another", -2, x.claim(0, field, 7));
        IT.due("15: the other's", 4, x.claim(1, field, 7));
        x.giveUp(meadow);
        IT.due("15: given up", -2, x.claim(0, meadow, 0));
        IT.due("15: so many", 4, x.count(4));
    }

    private static void claimsFull() {
        AcresPaid x = new AcresPaid();
        x.farm(1, 0);
        x.farm(1, 0);
        int field = Checks.field(x, 0, 0, 0, 2, 2);
        for (int i = 1; i <= 300; i++) {
            IT.due("15: claim", i, x.claim(0, field, i % 8));
        }
        IT.due("15: full", -3, x.claim(0, field, 0));
        IT.due("15: not ahead of full", -2, x.claim(1, field, 0));
        IT.due("15: the 300th counts", 300 % 8, x.counted(0, field, 0, 0, 2));
    }

    private static void promise16() {
        AcresPaid x = new AcresPaid();
        IT.due("16: land 4", -1, x.close(4, 0));
        IT.due("16: land -1", -1, x.close(-1, 0));
        IT.due("16: -1", -1, x.close(0, -1));
        IT.due("16: 365", -1, x.close(0, 365));
        for (int land = 0; land < 4; land++) {
            IT.due("16: at first", 135, x.close(land, land));
        }
        IT.due("16: of land 3", 3, x.close(3, 364));
        IT.due("16: as told", 364, x.close(3, 0));
        IT.due("16: of land 2", 2, x.close(2, 0));
    }

    private static void promise17() {
        AcresPaid x = new AcresPaid();
        x.farm(1, 0);
        int field = Checks.field(x, 0, 0, 0, 24, 24);
        x.claim(0, field, 0);
        IT.due("17: a -1", -1, x.out(-1, 0, 0));
        IT.due("17: b -1", -1, x.out(0, -1, 0));
        IT.due("17: x 24", -1, x.out(2400, 2400, 0));
        IT.due("17: y 24", -1, x.out(24, 24, 0));
        IT.due("17: x1 24", -1, x.out(0, 2400, 0));
        IT.due("17: y1 24", -1, x.out(0, 24, 0));
        IT.due("17: x0 above x1", -1, x.out(200, 105, 0));
        IT.due("17: y0 above y1", -1, x.out(2, 101, 0));
        IT.due("17: day -1", -1, x.out(0, 0, -1));
        IT.due("17: day 3650", -1, x.out(0, 0, 3650));
        IT.due("17: a square", 1, x.out(2323, 2323, 0));
        IT.due("17: one is out", 575, x.counted(0, field, 0, 0, 0));
        IT.due("17: two by three", 2, x.out(203, 305, 0));
        IT.due("17: seven are out", 569, x.counted(0, field, 0, 0, 0));
        IT.due("17: from the second day on: not out in year 0", 3, x.out(0, 2323, 1));
        IT.due("17: so many still", 569, x.counted(0, field, 0, 0, 0));
        for (int i = 4; i <= 40; i++) {
            IT.due("17: out", i, x.out(0, 0, 3649));
        }
        IT.due("17: full", -3, x.out(0, 0, 0));
        IT.due("17: bad ahead of full", -1, x.out(200, 105, 0));
        x.days(365);
        x.claim(0, field, 0);
        IT.due("17: all are out in year 1", 0, x.counted(0, field, 1, 365, 0));
    }

    private static void promise18() {
        AcresPaid x = new AcresPaid();
        x.farm(1, 2);
        int field = Checks.field(x, 0, 0, 0, 4, 3);
        IT.due("18: no claim", -2, x.counted(0, field, 0, 0, 0));
        x.days(140);
        x.claim(0, field, 5);
        x.control(0, field, 0, 2);
        int[] want = {12, 10, 5, 0, 5};
        for (int what = 0; what < 5; what++) {
            IT.due("18: what " + what, want[what], x.counted(0, field, 0, 140, what));
        }
        IT.due("18: what 5", -1, x.counted(0, field, 0, 140, 5));
        IT.due("18: what -1", -1, x.counted(0, field, 0, 140, -1));
        IT.due("18: no farm", -1, x.counted(1, field, 0, 140, 0));
        IT.due("18: no field", -1, x.counted(0, 0, 0, 140, 0));
        IT.due("18: year -1", -1, x.counted(0, field, -1, 140, 0));
        IT.due("18: year 10", -1, x.counted(0, field, 10, 140, 0));
        IT.due("18: k -1", -1, x.counted(0, field, 0, -1, 0));
        IT.due("18: k 3650", -1, x.counted(0, field, 0, 3650, 0));
        IT.due("18: as known a day ahead", -2, x.counted(0, field, 0, 139, 0));
        IT.due("18: another year", -2, x.counted(0, field, 1, 140, 0));
        x.close(2, 10);
        IT.due("18: late by the close as it is now", 130, x.counted(0, field, 0, 140, 4));
        x.close(2, 200);
        IT.due("18: not late", 0, x.counted(0, field, 0, 140, 4));
        x.close(1, 0);
        IT.due("18: the close of another land", 0, x.counted(0, field, 0, 140, 4));
        x.days(365 - 140 + 136);
        x.close(2, 135);
        x.claim(0, field, 1);
        IT.due("18: late by the date", 1, x.counted(0, field, 1, 501, 4));
    }

    private static void squaresOnce() {
        AcresPaid x = new AcresPaid();
        x.farm(1, 0);
        int lesser = Checks.field(x, 0, 0, 0, 4, 4);
        int greater = Checks.field(x, 0, 2, 2, 6, 6);
        x.claim(0, greater, 1);
        IT.due("18: alone", 16, x.counted(0, greater, 0, 0, 0));
        x.claim(0, lesser, 2);
        IT.due("18: once, for the lesser", 16, x.counted(0, lesser, 0, 0, 0));
        IT.due("18: the rest for the greater", 12, x.counted(0, greater, 0, 0, 0));
        IT.due("18: no fault of one farm's own", 0, x.counted(0, greater, 0, 0, 3));
        x.giveUp(lesser);
        IT.due("18: given up, claimed no more", -2, x.counted(0, lesser, 0, 0, 0));
        IT.due("18: the greater has all", 16, x.counted(0, greater, 0, 0, 0));
    }

    private static void faults() {
        AcresPaid x = new AcresPaid();
        x.farm(1, 0);
        x.farm(1, 1);
        int a = Checks.field(x, 0, 0, 0, 4, 4);
        int b = Checks.field(x, 1, 3, 0, 8, 4);
        int c = Checks.field(x, 0, 2, 0, 5, 1);
        x.claim(0, a, 0);
        x.claim(1, b, 0);
        x.claim(0, c, 0);
        // x 3 of a, and x 4 of the top row by c, are in fields of both
        IT.due("18: fault in a", 4, x.counted(0, a, 0, 0, 3));
        IT.due("18: fault in b", 5, x.counted(1, b, 0, 0, 3));
        IT.due("18: fault in c", 2, x.counted(0, c, 0, 0, 3));
        IT.due("18: a paid to nobody there", 12, x.counted(0, a, 0, 0, 0));
        IT.due("18: b", 15, x.counted(1, b, 0, 0, 0));
        IT.due("18: c has nothing left", 0, x.counted(0, c, 0, 0, 0));
        x.out(300, 303, 0);
        IT.due("18: what is out is in fault all the same", 4, x.counted(0, a, 0, 0, 3));
        x.handOver(a, 1, 0);
        x.claim(1, a, 0);
        IT.due("18: a field claimed by two farms", 16, x.counted(0, a, 0, 0, 3));
        IT.due("18: of it nothing counts", 0, x.counted(1, a, 0, 0, 0));
    }

    private static void knowledge() {
        AcresPaid x = new AcresPaid();
        x.farm(1, 0);
        int field = Checks.field(x, 0, 0, 0, 3, 3);
        x.claim(0, field, 1);
        x.days(1);
        x.claim(0, field, 2);
        x.out(0, 0, 0);
        x.days(1);
        x.control(0, field, 0, 8);
        x.days(1);
        x.control(0, field, 0, 500);
        x.days(1);
        x.giveUp(field);
        int[][] want = {{9, 9, 1}, {8, 8, 2}, {8, 0, 2}, {8, 0, 2}, {-2, -2, -2}};
        for (int k = 0; k < 5; k++) {
            for (int what = 0; what < 3; what++) {
                IT.due("18: known on " + k + ", what " + what, want[k][what], x.counted(0, field, 0, k, what));
            }
        }
    }

    private static void promise19() {
        AcresPaid x = new AcresPaid();
        x.farm(1, 0);
        x.farm(1, 0);
        int field = Checks.field(x, 0, 0, 0, 3, 3);
        x.claim(0, field, 1);
        IT.due("19: no farm", -1, x.control(field, field, 0, 0));
        IT.due("19: no field", -1, x.control(0, 0, 0, 0));
        IT.due("19: year 10", -1, x.control(0, field, 10, 0));
        IT.due("19: -1", -1, x.control(0, field, 0, -1));
        IT.due("19: 577", -1, x.control(0, field, 0, 577));
        IT.due("19: another farm", -2, x.control(1, field, 0, 0));
        IT.due("19: another year", -2, x.control(0, field, 1, 0));
        IT.due("19: 576", 1, x.control(0, field, 0, 576));
        IT.due("19: held at what is counted", 0, x.counted(0, field, 0, 0, 1));
        for (int i = 2; i <= 200; i++) {
            IT.due("19: control", i, x.control(0, field, 0, i % 9));
        }
        IT.due("19: the latest counts", 9 - 200 % 9, x.counted(0, field, 0, 0, 1));
        IT.due("19: full", -3, x.control(0, field, 0, 0));
        IT.due("19: not ahead of full", -2, x.control(1, field, 0, 0));
        x.giveUp(field);
        IT.due("19: given up", -2, x.control(0, field, 0, 0));
        IT.due("19: 200", 200, x.count(6));
    }

    private static void promise20() {
        AcresPaid x = new AcresPaid();
        x.farm(1, 0);
        x.body();
        x.days(5);
        IT.due("20: of a body", -1, x.majeure(1, 0));
        IT.due("20: of none", -1, x.majeure(2, 0));
        IT.due("20: year -1", -1, x.majeure(0, -1));
        IT.due("20: year 10", -1, x.majeure(0, 10));
        IT.due("20: proved", 1, x.majeure(0, 9));
        IT.due("20: it was", -2, x.majeure(0, 9));
        IT.due("20: another year", 1, x.majeure(0, 0));
        IT.due("20: as known that day", 1, x.named(0, 9, 5, 11));
        IT.due("20: as known a day ahead", 0, x.named(0, 9, 4, 11));
    }
}
