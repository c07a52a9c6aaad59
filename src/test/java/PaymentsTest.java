/** Promises 29 to 32: what is paid, settled, owed for back years, and cut by a budget. */
public final class PaymentsTest {
    private static final int VOID = -2000000000;
    private static final Checks IT = new Checks("payments");

    public static void main(String[] args) {
        promise29();
        permits();
        steps();
        fines();
        lateness();
        greatSums();
        promise30();
        promise31();
        promise32();
        rests();
        IT.end();
    }

    private static void paid(AcresPaid x, int farm, int year, int k, int... want) {
        for (int what = 0; what < want.length; what++) {
            IT.due("29: paid, what " + what, want[what], x.paid(farm, year, k, what));
        }
    }

    /** A farm of land 0 with so many squares. */
    private static AcresPaid withSquares(int n) {
        AcresPaid x = new AcresPaid();
        x.farm(1, 0);
        x.claim(0, Checks.field(x, 0, 0, 0, 12, n / 12), 1);
        return x;
    }

    private static void promise29() {
        AcresPaid x = withSquares(24);
        IT.due("29: no farm", VOID, x.paid(1, 0, 0, 0));
        IT.due("29: farm -1", VOID, x.paid(-1, 0, 0, 0));
        IT.due("29: year -1", VOID, x.paid(0, -1, 0, 0));
        IT.due("29: year 10", VOID, x.paid(0, 10, 0, 0));
        IT.due("29: k -1", VOID, x.paid(0, 0, -1, 0));
        IT.due("29: k 3650", VOID, x.paid(0, 0, 3650, 0));
        IT.due("29: what -1", VOID, x.paid(0, 0, 0, -1));
        IT.due("29: what 7", VOID, x.paid(0, 0, 0, 7));
        paid(x, 0, 0, 0, 0, 0, 0, 0, 0, 0, -1);
        Checks.permit(x, 6, 0, 0);
        // 10 squares at 1 + 6, three tenths more
        paid(x, 0, 0, 0, 91, 70, 91, 91, 91, 91, -1);
        IT.due("29: another year", 0, x.paid(0, 1, 0, 0));
    }

    private static void permits() {
        AcresPaid x = withSquares(24);
        x.farm(1, 0);
        Checks.permit(x, 5, 0, 0);
        Checks.permit(x, 100, 0, 0);
        Checks.permit(x, 7, 0, 364);
        Checks.permit(x, 900, 0, 365);
        Checks.permit(x, 900, 2, 0);
        // 24 squares: 10 at 100, 10 at 7, 4 at 5
        IT.due("29: the dearest first", 24 + 1000 + 70 + 20, x.paid(0, 0, 0, 1));
        x.control(0, 1, 0, 9);
        IT.due("29: by what is found", 15 + 1000 + 35, x.paid(0, 0, 0, 1));
        x.days(1);
        x.handOver(4, 2, 0);
        IT.due("29: handed over", 15 + 70 + 25, x.paid(0, 0, 1, 1));
        IT.due("29: as known the day ahead", 15 + 1000 + 35, x.paid(0, 0, 0, 1));
    }

    private static void steps() {
        AcresPaid x = withSquares(36);
        Checks.permit(x, 4, 0, 0);
        x.days(1);
        Checks.text(x, 0, 0, "3");
        Checks.text(x, 1, 0, "c>1");
        Checks.text(x, 2, 0, "m>50?50+(m-50)/2;m");
        Checks.text(x, 3, 0, "e>20?100;m+7");
        paid(x, 0, 0, 0, 65, 50, 65, 65, 65, 65, -1);
        // 10 * 7; not green; 50 + 10; 7 hundredths: 4.2, up: 5 away, m is no sum there
        paid(x, 0, 0, 1, 55, 70, 70, 60, 55, 55, 1);
        x.days(1);
        Checks.text(x, 2, 0, "m*2");
        Checks.text(x, 1, 0, "-1");
        paid(x, 0, 0, 2, 84, 70, 91, 91, 84, 84, 1);
        x.days(1);
        Checks.text(x, 2, 0, "-5");
        paid(x, 0, 0, 3, 0, 70, 91, 0, 0, 0, 1);
        x.days(1);
        Checks.text(x, 2, 0, "0?5");
        Checks.text(x, 0, 0, "-9");
        paid(x, 0, 0, 4, 0, 0, 0, 0, 0, 0, 1);
        Checks.text(x, 0, 0, "0?9");
        IT.due("29: no line of RATE: 0", 40, x.paid(0, 0, 4, 1));
        IT.due("29: texts of later years are not in force", 4, x.count(7));
        Checks.text(x, 0, 1, "77");
        IT.due("29: in year 0 as it was", 40, x.paid(0, 0, 4, 1));
    }

    private static void fines() {
        AcresPaid x = withSquares(12);
        Checks.permit(x, 9, 0, 0);
        Checks.text(x, 3, 0, "e>10?101;e>5?50;e>3?1;0?1");
        // 100 and three tenths
        paid(x, 0, 0, 0, 130, 100, 130, 130, 130, 130, -1);
        x.control(0, 1, 0, 1);
        IT.due("29: e is 9: the half", 65, x.paid(0, 0, 0, 4));
        IT.due("29: line 1", 1, x.paid(0, 0, 0, 6));
        x.control(0, 1, 0, 2);
        IT.due("29: held at 100", 0, x.paid(0, 0, 0, 4));
        IT.due("29: line 0", 0, x.paid(0, 0, 0, 6));
        Checks.text(x, 3, 0, "-1");
        IT.due("29: held at 0", 130, x.paid(0, 0, 0, 4));
        Checks.text(x, 3, 0, "1");
        IT.due("29: 1.3 away, up", 128, x.paid(0, 0, 0, 4));
        x.days(1);
        x.majeure(0, 0);
        IT.due("29: none with majeure", 130, x.paid(0, 0, 1, 4));
        IT.due("29: as known the day ahead", 128, x.paid(0, 0, 0, 4));
    }

    private static void lateness() {
        AcresPaid x = new AcresPaid();
        x.farm(1, 3);
        int field = Checks.field(x, 0, 0, 0, 10, 1);
        Checks.permit(x, 9, 0, 0);
        x.days(150);
        x.claim(0, field, 0);
        // 130; 15 hundredths: 19.5, cut: 19 away
        paid(x, 0, 0, 150, 111, 100, 130, 130, 130, 111, -1);
        x.close(3, 51);
        IT.due("29: 99 days late", 2, x.paid(0, 0, 150, 0));
        x.close(3, 50);
        IT.due("29: 100 days late", 0, x.paid(0, 0, 150, 0));
        x.close(3, 0);
        IT.due("29: 150 days late", 0, x.paid(0, 0, 150, 5));
        IT.due("29: ahead of that step", 130, x.paid(0, 0, 150, 4));
    }

    private static void greatSums() {
        AcresPaid x = withSquares(12);
        Checks.permit(x, 999, 0, 0);
        Checks.text(x, 0, 0, "999*200000");
        Checks.text(x, 3, 0, "99");
        int first = 1998000000 + 9990;
        paid(x, 0, 0, 0, 20000000, first, 2000000000, 2000000000, 20000000, 20000000, 0);
        Checks.text(x, 0, 0, "65536*32768-1");
        IT.due("29: held at 2000000000", 2000000000, x.paid(0, 0, 0, 1));
        Checks.text(x, 0, 0, "65536*32768");
        IT.due("29: held at 0", 0, x.paid(0, 0, 0, 1));
    }

    private static void promise30() {
        AcresPaid x = withSquares(12);
        Checks.permit(x, 9, 0, 0);
        IT.due("30: no farm", -1, x.settle(1, 0));
        IT.due("30: year -1", -1, x.settle(0, -1));
        IT.due("30: a year to come", -1, x.settle(0, 1));
        IT.due("30: this year", 130, x.settle(0, 0));
        x.days(365);
        IT.due("30: a new year", 0, x.settle(0, 1));
        IT.due("30: a year to come", -1, x.settle(0, 2));
        Checks.text(x, 1, 0, "0");
        IT.due("30: less than was settled", -30, x.back(0));
        IT.due("30: an earlier year anew", 100, x.settle(0, 0));
        IT.due("30: in place of what was", 0, x.back(0));
    }

    private static void promise31() {
        AcresPaid x = withSquares(12);
        x.body();
        Checks.permit(x, 9, 0, 0);
        IT.due("31: no farm", VOID, x.back(1));
        IT.due("31: none", VOID, x.back(-1));
        IT.due("31: not the present year", 0, x.back(0));
        x.days(364);
        IT.due("31: nor on its last day", 0, x.back(0));
        x.days(1);
        IT.due("31: never settled", 130, x.back(0));
        x.claim(0, 1, 0);
        x.days(365);
        IT.due("31: two years", 260, x.back(0));
        x.settle(0, 1);
        IT.due("31: one of them settled", 130, x.back(0));
        Checks.text(x, 0, 0, "999999*2000");
        IT.due("31: held at 2000000000", 2000000000, x.back(0));
        x.settle(0, 0);
        x.settle(0, 1);
        Checks.text(x, 2, 0, "0");
        IT.due("31: held at -1999999999", -1999999999, x.back(0));
    }

    private static void promise32() {
        AcresPaid x = new AcresPaid();
        for (int i = 0; i < 4; i++) {
            x.farm(1, i == 3 ? 1 : 0);
        }
        for (int i = 0; i < 4; i++) {
            x.claim(i, Checks.field(x, i, 0, 2 * i, 10, 2 * i + 1), 0);
            Checks.permit(x, i + 1, i, 0);
        }
        // paid: 26, 39, 52 of land 0, and 65 of land 1
        int[] all = {26, 39, 52, 65};
        for (int i = 0; i < 4; i++) {
            IT.due("32: what is paid", all[i], x.paid(i, 0, 0, 0));
            IT.due("32: not above", all[i], x.budget(i, 0, i == 3 ? 65 : 117));
        }
        // 116: 25.7, 38.6, 51.5
        IT.due("32: the greatest rest", 26, x.budget(0, 0, 116));
        IT.due("32: the next rest", 39, x.budget(1, 0, 116));
        IT.due("32: nothing left", 51, x.budget(2, 0, 116));
        IT.due("32: none", 0, x.budget(2, 0, 0));
        IT.due("32: of its own land", 64, x.budget(3, 0, 64));
        IT.due("32: another year", 0, x.budget(0, 1, 5));
        IT.due("32: no farm", -1, x.budget(4, 0, 5));
        IT.due("32: year 10", -1, x.budget(0, 10, 5));
        IT.due("32: -1", -1, x.budget(0, 0, -1));
        IT.due("32: above 2000000000", -1, x.budget(0, 0, 2000000001));
        IT.due("32: 2000000000", 26, x.budget(0, 0, 2000000000));
    }

    private static void rests() {
        AcresPaid x = new AcresPaid();
        for (int i = 0; i < 3; i++) {
            x.farm(1, 2);
        }
        for (int i = 0; i < 3; i++) {
            x.claim(i, Checks.field(x, i, 0, 2 * i, 10, 2 * i + 1), 0);
            Checks.permit(x, 9, i, 0);
        }
        int[][] want = {{1, 0, 0}, {1, 1, 0}, {1, 1, 1}, {2, 1, 1}};
        for (int v = 1; v <= 4; v++) {
            for (int farm = 0; farm < 3; farm++) {
                IT.due("32: of like rests the lesser farm, " + v, want[v - 1][farm], x.budget(farm, 0, v));
            }
        }
        Checks.text(x, 20, 0, "999999*2000");
        IT.due("32: great sums", 666666667, x.budget(0, 0, 2000000000));
        IT.due("32: great sums", 666666667, x.budget(1, 0, 2000000000));
        IT.due("32: great sums", 666666666, x.budget(2, 0, 2000000000));
    }
}
