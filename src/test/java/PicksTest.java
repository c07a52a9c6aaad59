/** Promises 33 to 43: giving up, drawing, the rate of errors, mixes, texts tried. */
public final class PicksTest {
    private static final Checks IT = new Checks("picks");

    public static void main(String[] args) {
        promise33and34();
        leastTies();
        leastBig();
        promises35to37();
        drawnByRisk();
        promise38();
        errorsAboveTwo();
        unlike();
        promise39and40();
        promise41and42();
        promise43();
        IT.end();
    }

    private static AcresPaid withFarms(int n) {
        AcresPaid x = new AcresPaid();
        for (int i = 0; i < n; i++) {
            x.farm(1, 0);
        }
        return x;
    }

    private static int claimed(AcresPaid x, int farm, int x0, int y0, int x1, int y1) {
        int field = Checks.field(x, farm, x0, y0, x1, y1);
        x.claim(farm, field, 0);
        return field;
    }

    private static void given(AcresPaid x, int... want) {
        for (int i = 0; i < want.length; i++) {
            IT.due("34: given " + i, want[i], x.given(i));
        }
        IT.due("34: no more", -1, x.given(want.length));
        IT.due("34: -1", -1, x.given(-1));
    }

    private static void promise33and34() {
        AcresPaid x = withFarms(3);
        IT.due("33: year -1", -1, x.least(-1));
        IT.due("33: year 10", -1, x.least(10));
        IT.due("33: nothing claimed", 0, x.least(0));
        given(x);
        int a = claimed(x, 0, 0, 0, 4, 4);
        int b = claimed(x, 1, 3, 0, 9, 4);
        int c = claimed(x, 2, 8, 0, 12, 4);
        // b of 24 lies over a and c, of 16 each
        IT.due("33: the one between", 24, x.least(0));
        given(x, b);
        int d = claimed(x, 0, 8, 3, 9, 4);
        IT.due("33: d too", 25, x.least(0));
        given(x, b, d);
        IT.due("33: bad", -1, x.least(10));
        given(x, b, d);
        x.giveUp(c);
        IT.due("33: c is claimed no more", 17, x.least(0));
        given(x, a, d);
        IT.due("33: another year", 0, x.least(1));
        given(x);
        x.handOver(a, 2, 0);
        x.claim(2, a, 0);
        IT.due("33: a, claimed by two", 17, x.least(0));
        given(x, a, d);
        x.giveUp(b);
        IT.due("33: a alone", 16, x.least(0));
        given(x, a);
    }

    private static void leastTies() {
        AcresPaid x = withFarms(2);
        // one field of 8 over two of 4
        int first = claimed(x, 0, 0, 0, 2, 2);
        int second = claimed(x, 0, 2, 0, 4, 2);
        int big = claimed(x, 1, 0, 0, 4, 2);
        IT.due("33: like areas, fewer fields", 8, x.least(0));
        given(x, big);
        AcresPaid y = withFarms(2);
        first = claimed(y, 0, 0, 0, 2, 2);
        claimed(y, 1, 0, 0, 2, 2);
        second = claimed(y, 1, 6, 0, 8, 2);
        claimed(y, 0, 6, 0, 8, 2);
        IT.due("33: like areas, as many fields", 8, y.least(0));
        given(y, first, second);
    }

    private static void leastBig() {
        AcresPaid x = withFarms(2);
        int[] fields = new int[11];
        for (int i = 0; i < 10; i += 2) {
            fields[i] = claimed(x, 0, 2 * i, 0, 2 * i + 2, 2);
            fields[i + 1] = claimed(x, 1, 2 * i, 0, 2 * i + 1, 2);
        }
        IT.due("33: ten", 10, x.least(0));
        given(x, fields[1], fields[3], fields[5], fields[7], fields[9]);
        claimed(x, 0, 20, 20, 24, 24);
        IT.due("33: one that overlaps nothing is none of the ten", 10, x.least(0));
        Checks.field(x, 0, 0, 0, 1, 1);
        IT.due("33: nor one that is not claimed", 10, x.least(0));
        claimed(x, 0, 0, 0, 1, 1);
        IT.due("33: eleven", -4, x.least(0));
        given(x, fields[1], fields[3], fields[5], fields[7], fields[9]);
    }

    private static void promises35to37() {
        AcresPaid x = withFarms(6);
        x.farm(1, 1);
        for (int i = 0; i < 7; i++) {
            claimed(x, i, 0, 2 * i, 3, 2 * i + 1);
        }
        int[][] bad = {{-1, 0, 1}, {4, 0, 1}, {0, -1, 1}, {0, 10, 1}, {0, 0, 0}, {0, 0, 10}};
        for (int[] b : bad) {
            IT.due("36: bad", -1, x.draw(b[0], b[1], b[2]));
        }
        IT.due("36: one", 1, x.draw(0, 0, 1));
        IT.due("37: by risk, without a lot", 0, x.drawn(0));
        IT.due("35: lots", 1, x.lots(-5));
        IT.due("36: four", 4, x.draw(0, 0, 4));
        IT.due("37: by risk", 0, x.drawn(0));
        IT.due("37: by risk", 1, x.drawn(1));
        int z = -5;
        int[] left = {2, 3, 4, 5};
        z = z * 1103515245 + 12345;
        int at = (z >>> 8) % 4;
        IT.due("37: by lot", left[at], x.drawn(2));
        System.arraycopy(left, at + 1, left, at, 3 - at);
        z = z * 1103515245 + 12345;
        IT.due("37: by lot", left[(z >>> 8) % 3], x.drawn(3));
        IT.due("37: no fifth", -1, x.drawn(4));
        IT.due("37: -1", -1, x.drawn(-1));
        IT.due("36: bad", -1, x.draw(0, 0, 10));
        IT.due("37: as it was", 0, x.drawn(0));
        IT.due("36: half, up", 5, x.draw(0, 0, 5));
        IT.due("37: three by risk", 2, x.drawn(2));
        z = z * 1103515245 + 12345;
        IT.due("37: z goes on", 3 + (z >>> 8) % 3, x.drawn(3));
        IT.due("36: all", 6, x.draw(0, 0, 9));
        IT.due("36: of land 1", 1, x.draw(1, 0, 3));
        IT.due("37: the one of land 1", 6, x.drawn(0));
        x.giveUp(13);
        IT.due("36: its claim counts no more", 0, x.draw(1, 0, 3));
        IT.due("37: none", -1, x.drawn(0));
        IT.due("36: no claims of that year", 0, x.draw(0, 1, 3));
    }

    private static void drawnByRisk() {
        AcresPaid x = withFarms(5);
        for (int i = 0; i < 5; i++) {
            int field = claimed(x, i, 0, 2 * i, 10, 2 * i + 1);
            x.control(i, field, 0, new int[] {0, 3, 1, 3, 10}[i]);
        }
        IT.due("36: year 0 knows no risk", 2, x.draw(0, 0, 2));
        IT.due("37: the least", 0, x.drawn(0));
        x.days(365);
        for (int i = 0; i < 5; i++) {
            x.claim(i, 5 + i, 0);
        }
        x.control(0, 5, 1, 9);
        x.lots(1);
        IT.due("36: five", 5, x.draw(0, 1, 5));
        IT.due("37: 999", 4, x.drawn(0));
        IT.due("37: 42, the lesser", 1, x.drawn(1));
        IT.due("37: 42", 3, x.drawn(2));
        int z = 1103515245 + 12345;
        int at = (z >>> 8) % 2;
        IT.due("37: of 0 and 2 by lot", 2 * at, x.drawn(3));
        IT.due("37: the other one", 2 - 2 * at, x.drawn(4));
    }

    private static void promise38() {
        AcresPaid x = withFarms(4);
        x.farm(3, 2);
        int[] missing = {0, 2, 3, 50, 50};
        for (int i = 0; i < 5; i++) {
            int field = claimed(x, i, 0, i, 24, i + 1);
            int other = claimed(x, i, 0, 10 + i, 24, 11 + i);
            if (i < 4) {
                x.control(i, field, 0, missing[i] / 2);
                x.control(i, other, 0, missing[i] - missing[i] / 2);
            }
        }
        // e of 48 squares: 0; 2 missing: 4; 3: 6; all: 999; farm 4 has no control
        IT.due("38: controlled", 4, x.rate(0, 0, 0));
        IT.due("38: above 2", 3, x.rate(0, 1, -7));
        IT.due("38: another year", 0, x.rate(1, 0, 0));
        IT.due("38: none are unlike nothing", 0, x.rate(1, 2, 5049));
        IT.due("38: year -1", -1, x.rate(-1, 0, 0));
        IT.due("38: year 10", -1, x.rate(10, 0, 0));
        IT.due("38: what 3", -1, x.rate(0, 3, 5010));
        IT.due("38: what -1", -1, x.rate(0, -1, 5010));
        int[] bad = {0, 99, 49, 100, 150, 5000, 5050, 10001, -5010, Integer.MAX_VALUE, Integer.MIN_VALUE};
        for (int pw : bad) {
            IT.due("38: pw " + pw, -1, x.rate(0, 2, pw));
        }
    }

    private static void errorsAboveTwo() {
        AcresPaid x = withFarms(2);
        for (int i = 0; i < 2; i++) {
            x.control(i, claimed(x, i, 0, 10 * i, 10, 10 * i + 5), 0, i + 1);
        }
        // 100 / 49 is 2; 200 / 48 is 4
        IT.due("38: e of 2 is not above 2", 1, x.rate(0, 1, 0));
        x.control(1, 3, 0, 0);
        IT.due("38: controlled, and none missing", 2, x.rate(0, 0, 0));
        IT.due("38: none above 2", 0, x.rate(0, 1, 0));
        x.giveUp(2);
        IT.due("38: a control stays told", 2, x.rate(0, 0, 0));
    }

    /** Of n farms so many are wrong, from the last on. */
    private static AcresPaid withErrors(int n, int wrong) {
        AcresPaid x = withFarms(n);
        for (int i = 0; i < n; i++) {
            int field = claimed(x, i, 0, i, 24, i + 1);
            x.control(i, field, 0, i < n - wrong ? 0 : 1);
        }
        return x;
    }

    private static void unlike() {
        AcresPaid one = withErrors(1, 1);
        IT.due("38: 10 of 100 is not less than 10", 0, one.rate(0, 2, 1010));
        IT.due("38: 10 of 100 is less than 11", 1, one.rate(0, 2, 1011));
        AcresPaid none = withErrors(1, 0);
        IT.due("38: 10 of 100 come by 90", 2, none.rate(0, 2, 9011));
        IT.due("38: not less than 10", 0, none.rate(0, 2, 9010));
        AcresPaid three = withErrors(3, 2);
        // two or more of three by 10 of 100: 2.8 of 100; two or fewer by 90: 27.1
        IT.due("38: 2.8 less than 3", 1, three.rate(0, 2, 1003));
        IT.due("38: 2.8 not less than 2", 0, three.rate(0, 2, 1002));
        IT.due("38: 27.1 less than 28", 2, three.rate(0, 2, 9028));
        IT.due("38: 27.1 not less than 27", 0, three.rate(0, 2, 9027));
        AcresPaid nine = withErrors(9, 9);
        IT.due("38: nine are controlled", 9, nine.rate(0, 1, 0));
        // eight of eight by 50 of 100: 0.39 of 100, by 57: 1.11
        IT.due("38: less than 1", 1, nine.rate(0, 2, 5001));
        IT.due("38: the ninth is not judged", 0, nine.rate(0, 2, 5701));
        // eight by 54: 0.72, seven would be 1.34
        IT.due("38: the eighth is judged", 1, nine.rate(0, 2, 5401));
        AcresPaid last = withErrors(9, 1);
        IT.due("38: the ninth alone is wrong", 0, last.rate(0, 2, 149));
        IT.due("38: eight are right: 0.39", 2, last.rate(0, 2, 5001));
        IT.due("38: by 99", 2, last.rate(0, 2, 9901));
    }

    private static void promise39and40() {
        AcresPaid x = new AcresPaid();
        IT.due("39: 0", -1, x.plot(0));
        IT.due("39: 577", -1, x.plot(577));
        IT.due("39: -1", -1, x.plot(-1));
        for (int i = 1; i <= 6; i++) {
            IT.due("39: plot", i, x.plot(i == 1 ? 576 : 1));
        }
        IT.due("39: full", -3, x.plot(1));
        IT.due("39: bad ahead of full", -1, x.plot(0));
        IT.due("40: crop 8", -1, x.worth(8, 0));
        IT.due("40: crop -1", -1, x.worth(-1, 0));
        IT.due("40: 100", -1, x.worth(0, 100));
        IT.due("40: -1", -1, x.worth(0, -1));
        for (int crop = 0; crop < 8; crop++) {
            IT.due("40: at first", 0, x.worth(crop, 99 - crop));
        }
        IT.due("40: as told", 92, x.worth(7, 0));
    }

    private static void mix(AcresPaid x, int most, int n, int want, int... crops) {
        IT.due("41: mix", want, x.mix(most, n));
        for (int i = 0; i < crops.length; i++) {
            IT.due("42: mixed " + i, crops[i], x.mixed(i));
        }
        IT.due("42: no more", -1, x.mixed(crops.length));
        IT.due("42: -1", -1, x.mixed(-1));
        IT.due("41: areas are none then", -1, x.mix(100, 1));
    }

    private static void plots(AcresPaid x, int... squares) {
        for (int s : squares) {
            x.plot(s);
        }
    }

    private static void promise41and42() {
        AcresPaid x = new AcresPaid();
        IT.due("41: no area", -1, x.mix(50, 1));
        plots(x, 10, 10, 20);
        int[][] bad = {{0, 1}, {101, 1}, {50, 0}, {50, 4}, {-1, 1}, {50, -1}};
        for (int[] b : bad) {
            IT.due("41: bad", -1, x.mix(b[0], b[1]));
        }
        IT.due("41: areas stay", 4, x.plot(40));
        mix(x, 100, 1, 0, 0, 0, 0, 0);
        plots(x, 10, 10);
        mix(x, 49, 1, -2, 0, 0, 0, 0);
        plots(x, 10, 10);
        mix(x, 100, 3, -2, 0, 0, 0, 0);
        plots(x, 10, 10);
        mix(x, 1, 1, -2, 0, 0, 0, 0);
        plots(x, 10, 10);
        mix(x, 50, 1, 0, 0, 1);
        x.worth(5, 9);
        x.worth(2, 4);
        x.worth(7, 9);
        plots(x, 10, 20, 30);
        mix(x, 100, 1, 540, 5, 5, 5);
        plots(x, 10, 20, 30);
        mix(x, 50, 2, 540, 5, 5, 7);
        plots(x, 10, 20, 30);
        mix(x, 100, 3, 490, 2, 5, 7);
        plots(x, 10, 10, 10, 10, 10, 10);
        x.worth(0, 1);
        // a third each: two areas of a crop; 5 and 7 in full, then 2
        mix(x, 34, 1, 440, 2, 2, 5, 5, 7, 7);
        plots(x, 576);
        mix(x, 99, 1, -2, 2, 2, 5, 5, 7, 7);
    }

    private static void promise43() {
        AcresPaid x = new AcresPaid();
        for (int i = 0; i < 4; i++) {
            x.farm(1, i == 3 ? 1 : 0);
        }
        for (int i = 0; i < 4; i++) {
            claimed(x, i, 0, 2 * i, 5 + i, 2 * i + 1);
            Checks.permit(x, 1, i, 0);
        }
        IT.due("43: no text", -1, x.tried(0, 0, 0, 0));
        Checks.text(x, 30, 9, "s>5?3;s=5?0;1");
        Checks.text(x, 0, 0, "1");
        Checks.text(x, 1, 0, "1");
        IT.due("43: two more", 2, x.tried(0, 0, 0, 0));
        IT.due("43: one fewer", 1, x.tried(0, 0, 0, 1));
        IT.due("43: one of land 1", 1, x.tried(0, 1, 0, 0));
        IT.due("43: that in force", 0, x.tried(1, 0, 0, 0));
        IT.due("43: that in force", 0, x.tried(1, 0, 0, 1));
        IT.due("43: no farms", 0, x.tried(0, 2, 0, 0));
        IT.due("43: no claims", 0, x.tried(0, 0, 1, 0));
        IT.due("43: it is tried only", 12, x.paid(0, 0, 0, 0) - 1);
        IT.due("43: of another use", -1, x.tried(2, 0, 0, 0));
        IT.due("43: text -1", -1, x.tried(-1, 0, 0, 0));
        IT.due("43: text 3", -1, x.tried(3, 0, 0, 0));
        IT.due("43: land 4", -1, x.tried(0, 4, 0, 0));
        IT.due("43: land -1", -1, x.tried(0, -1, 0, 0));
        IT.due("43: year 10", -1, x.tried(0, 0, 10, 0));
        IT.due("43: what 2", -1, x.tried(0, 0, 0, 2));
        IT.due("43: what -1", -1, x.tried(0, 0, 0, -1));
    }
}
