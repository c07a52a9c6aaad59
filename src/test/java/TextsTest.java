/** Promises 25 to 28: the tape, texts and their faults, texts in force, names. */
public final class TextsTest {
    private static final Checks IT = new Checks("texts");

    public static void main(String[] args) {
        promise25();
        promise26();
        faults();
        open();
        textsFull();
        values();
        promise27();
        promise28();
        namesOfYears();
        errors();
        IT.end();
    }

    private static void promise25() {
        AcresPaid x = new AcresPaid();
        IT.due("25: none", -1, x.feed(0, 0));
        IT.due("25: five", -1, x.feed(5, 0));
        IT.due("25: -1", -1, x.feed(-1, 0));
        IT.due("25: the lowest first, the others left", 2, x.feed(2, 0x7F7F2B31));
        IT.due("25: one more", 3, x.feed(1, 0xFFFFFF32));
        IT.due("25: 1+2 is a text", 0, x.text(0, 0));
        for (int i = 4; i <= 156; i += 4) {
            IT.due("25: four", i, x.feed(4, 0x31313131));
        }
        x.feed(3, 0);
        IT.due("25: 159", 159, x.count(9));
        IT.due("25: full", -3, x.feed(2, 0));
        IT.due("25: bad ahead of full", -1, x.feed(5, 0));
        IT.due("25: still 159", 159, x.count(9));
        IT.due("25: 160", 160, x.feed(1, 0));
    }

    private static void promise26() {
        AcresPaid x = new AcresPaid();
        x.feed(1, '1');
        int[] bad = {-1, 4, 9, 14, 34, 40, Integer.MIN_VALUE, Integer.MAX_VALUE};
        for (int what : bad) {
            IT.due("26: what " + what, -1, x.text(what, 0));
        }
        IT.due("26: year -1", -1, x.text(0, -1));
        IT.due("26: year 10", -1, x.text(0, 10));
        IT.due("26: the tape stays", 1, x.count(9));
        IT.due("26: a text", 0, x.text(33, 9));
        IT.due("26: the tape is empty", 0, x.count(9));
        IT.due("26: nothing on the tape", -100, x.text(0, 0));
        IT.due("26: a fault", -101, Checks.text(x, 0, 0, "1)"));
        IT.due("26: the tape is empty", 0, x.count(9));
        IT.due("26: it is no text", 1, x.count(8));
    }

    private static void fault(int at, String text) {
        AcresPaid x = new AcresPaid();
        IT.due("26: fault of " + text, at < 0 ? 0 : -100 - at, Checks.text(x, 0, 0, text));
    }

    private static void faults() {
        String[] sound = {"0", "y", "999999", "1?2", "1;2", "1?2;3?4;5", "1<2", "(1<2)<3", "1<2&2<3|1>0", "!-1", "1--1", "2*-3", "((1))",
            "yksfgctlepmjb".replaceAll("(.)(?=.)", "$1+"), "1=2?3=4", "000001"};
        for (String text : sound) {
            fault(-1, text);
        }
        fault(1, "1 ");
        fault(0, " 1");
        fault(0, "a");
        fault(0, "S");
        fault(6, "1234567");
        fault(1, "1y");
        fault(1, "y1");
        fault(1, "y!");
        fault(3, "1<2<3");
        fault(3, "1=2>3");
        fault(3, "1?2?3");
        fault(2, "(1?2)");
        fault(2, "(1;2)");
        fault(3, "(1)1");
        fault(3, "(1)(2)");
        fault(1, "(");
        fault(2, "(1");
        fault(1, "()");
        fault(2, "1+");
        fault(2, "1+*");
        fault(2, "1;");
        fault(2, "1;;");
        fault(0, ";1");
        fault(2, "1?");
        fault(2, "1?;2");
        fault(1, "!");
        fault(1, "1,2");
        fault(1, "1" + (char) 128);
        fault(0, "" + (char) 255);
        fault(0, "" + (char) 0);
        fault(160, "1+".repeat(80));
        fault(-1, "1+".repeat(79) + "11");
    }

    private static void open() {
        fault(-1, "--------1");
        fault(8, "---------1");
        fault(-1, "((((((((1))))))))");
        fault(8, "(((((((((1)))))))))");
        fault(8, "!-(!-(!-(1)))");
        fault(-1, "-(-(-(-1)))-(-(-(-1)))");
        fault(-1, "--------1--------1");
        fault(-1, "--------1?--------1;--------1?--------1");
        fault(10, "1?--------(1)");
        fault(10, "1;---------1");
        fault(16, "(-1)*-(-1+(!!(-(-1))))");
        fault(-1, "(-1)*-(-1+(!!(-(1))))");
    }

    private static void textsFull() {
        AcresPaid x = new AcresPaid();
        for (int i = 0; i < 16; i++) {
            IT.due("26: text", i, Checks.text(x, 0, 0, String.valueOf(i)));
        }
        Checks.tape(x, "17");
        IT.due("26: full", -3, x.text(0, 0));
        IT.due("26: the tape stays", 2, x.count(9));
        IT.due("26: bad ahead of full", -1, x.text(4, 0));
        IT.due("26: the last made is in force", 15, x.inForce(0, 0, 0));
    }

    /** What a text says: by the RATE for the one square that is found, and a permit of 1 coin. */
    private static void says(String text, int want) {
        AcresPaid x = new AcresPaid();
        x.farm(1, 0);
        x.claim(0, Checks.field(x, 0, 0, 0, 1, 1), 3);
        Checks.permit(x, 1, 0, 0);
        Checks.text(x, 0, 0, text);
        IT.due("26: what " + text + " says", want, x.paid(0, 0, 0, 1) - 1);
    }

    private static void values() {
        says("7", 7);
        says("1+2*3", 7);
        says("(1+2)*3", 9);
        says("10-3-2", 5);
        says("100/7/2", 7);
        says("-7/2+10", 7);
        says("-7%3+10", 9);
        says("7%-3", 1);
        says("5/0+3", 3);
        says("5%0+3", 3);
        says("1|0", 1);
        says("5|6", 1);
        says("0|0", 0);
        says("5&6", 1);
        says("5&0", 0);
        says("1|0&0", 1);
        says("3<4", 1);
        says("4<4", 0);
        says("4=4", 1);
        says("4>3", 1);
        says("3>4", 0);
        says("1+1=2&2>1", 1);
        says("!0", 1);
        says("!5", 0);
        says("!!5", 1);
        says("!1+5", 5);
        says("--5", 5);
        says("1--5", 6);
        says("2*-3+10", 4);
        says("0?5;6", 6);
        says("3?5;6", 5);
        says("--------3?--------5;6", 5);
        says("((((((((0))))))))?5;((((((((6))))))))", 6);
        says("-1?5;6", 5);
        says("0?5;0?6", 0);
        says("0;6", 0);
        says("s*10+f", 11);
        says("999999*999999", 999999 * 999999 < 0 ? -1 : 999999 * 999999);
        says("65536*32768-1", 1999999999);
        says("(-65536*32768)/-1-1", 1999999999);
        says("(-65536*32768)%-1+4", 4);
        says("m+9", 9);
    }

    private static void promise27() {
        AcresPaid x = new AcresPaid();
        IT.due("27: none", -2, x.inForce(0, 9, 3649));
        Checks.text(x, 11, 3, "1");
        x.days(10);
        Checks.text(x, 11, 1, "2");
        IT.due("27: the one made last, not the latest year's", 1, x.inForce(11, 3, 10));
        IT.due("27: as known a day ahead", 0, x.inForce(11, 3, 9));
        IT.due("27: year 2", 1, x.inForce(11, 2, 10));
        IT.due("27: year 2, a day ahead", -2, x.inForce(11, 2, 9));
        IT.due("27: year 0", -2, x.inForce(11, 0, 10));
        IT.due("27: another land", -2, x.inForce(1, 9, 10));
        IT.due("27: another use", -2, x.inForce(10, 9, 10));
        int[] bad = {-1, 4, 34, 40};
        for (int what : bad) {
            IT.due("27: what " + what, -1, x.inForce(what, 0, 0));
        }
        IT.due("27: year -1", -1, x.inForce(0, -1, 0));
        IT.due("27: year 10", -1, x.inForce(0, 10, 0));
        IT.due("27: k -1", -1, x.inForce(0, 0, -1));
        IT.due("27: k 3650", -1, x.inForce(0, 0, 3650));
    }

    private static void names(AcresPaid x, int farm, int year, int k, int... want) {
        for (int name = 0; name < want.length; name++) {
            IT.due("28: name " + name + " of " + farm + " in " + year, want[name], x.named(farm, year, k, name));
        }
    }

    private static void promise28() {
        AcresPaid x = new AcresPaid();
        x.farm(2, 0);
        x.farm(7, 1);
        names(x, 1, 4, 0, 4, 7, 0, 0, 0, 0, 0, 0, 0, 0, 0, 0, 0);
        int wheat = Checks.field(x, 0, 0, 0, 4, 4);
        int grass = Checks.meadow(x, 0, 5, 5, 8, 8);
        int maize = Checks.field(x, 0, 10, 10, 13, 12);
        x.days(138);
        x.claim(0, wheat, 3);
        x.days(2);
        x.claim(0, grass, 0);
        x.claim(0, maize, 3);
        x.control(0, wheat, 0, 3);
        x.control(0, maize, 0, 1);
        Checks.permit(x, 9, 0, 364);
        Checks.permit(x, 9, 0, 365);
        x.majeure(0, 0);
        // 16 + 9 + 6 = 31; 4 are missing; 900 / 31; 2200 / 31; 140 - 135; 400 / 27
        names(x, 0, 0, 140, 0, 2, 31, 27, 29, 2, 70, 5, 14, 1, 0, 1, 0);
        names(x, 0, 0, 139, 0, 2, 16, 16, 0, 1, 100, 3, 0, 0, 0, 0, 0);
        IT.due("28: no farm", -1, x.named(2, 0, 0, 0));
        IT.due("28: year -1", -1, x.named(0, -1, 0, 0));
        IT.due("28: year 10", -1, x.named(0, 10, 0, 0));
        IT.due("28: k -1", -1, x.named(0, 0, -1, 0));
        IT.due("28: k 3650", -1, x.named(0, 0, 3650, 0));
        IT.due("28: name -1", -1, x.named(0, 0, 0, -1));
        IT.due("28: name 13", -1, x.named(0, 0, 0, 13));
        // the claim made last counts for l, though it is of the lesser field
        x.days(1);
        x.claim(0, wheat, 4);
        IT.due("28: late by the claim made last", 6, x.named(0, 0, 141, 7));
        IT.due("28: three crops", 3, x.named(0, 0, 141, 5));
        IT.due("28: 16 of 31", 51, x.named(0, 0, 141, 6));
    }

    private static void namesOfYears() {
        AcresPaid x = new AcresPaid();
        x.farm(1, 0);
        int field = Checks.field(x, 0, 0, 0, 4, 4);
        for (int year = 0; year < 4; year++) {
            x.claim(0, field, 0);
            if (year != 1) {
                x.control(0, field, year, 1);
            }
            x.days(365);
        }
        IT.due("28: none ahead of year 0", 0, x.named(0, 0, 1460, 12));
        IT.due("28: year 0", 1, x.named(0, 1, 1460, 12));
        IT.due("28: not year 1", 1, x.named(0, 2, 1460, 12));
        IT.due("28: not the year itself", 2, x.named(0, 3, 1460, 12));
        IT.due("28: three years", 3, x.named(0, 9, 1460, 12));
        IT.due("28: as known on k", 1, x.named(0, 9, 729, 12));
    }

    private static void errors() {
        AcresPaid x = new AcresPaid();
        x.farm(1, 0);
        int field = Checks.field(x, 0, 0, 0, 12, 1);
        IT.due("28: e without claims", 0, x.named(0, 0, 0, 8));
        x.claim(0, field, 0);
        int[][] want = {{0, 0}, {1, 9}, {6, 100}, {10, 500}, {11, 999}, {12, 999}, {500, 999}};
        for (int[] w : want) {
            x.control(0, field, 0, w[0]);
            IT.due("28: e, missing " + w[0], w[1], x.named(0, 0, 0, 8));
        }
    }
}
