/** Promise 28, and Terms 4 on what texts say and on NAMES: each sentence that names a bound, by a test of its own. */
public final class BoundsValuesTest {
    private static final int MIN = Integer.MIN_VALUE, MAX = Integer.MAX_VALUE, BAD = -1;
    private static final String LEAST = "(-65536*32768)", GREATEST = "(65535*32768+32767)";
    private static final Checks IT = new Checks("bounds of values");

    public static void main(String[] args) {
        intsThatWrap();
        towardNought();
        byNoughtTheyGiveNought();
        truths();
        notMinusAndBrackets();
        fromTheLeft();
        weakerAndStronger();
        theFirstLineThatCounts();
        noLineThatCounts();
        linesFromNought();
        namedArguments();
        yearAndKind();
        countedAndFound();
        hundredthsInMeadows();
        cropsGrown();
        hundredthsOfTheCropWithMost();
        lateOfTheClaimMadeLast();
        lateOfWhatCounts();
        errorsCut();
        errorsHeldAt999();
        errorsOfNothing();
        permitsOnTheLastDay();
        theSumSoFar();
        errorsInEarlierYears();
        IT.end();
    }

    /** A farm with one square and a permit of 1 coin: a RATE of r gives r + 1. */
    private static void says(String text, int want) {
        AcresPaid x = new AcresPaid();
        x.farm(1, 0);
        x.claim(0, Checks.field(x, 0, 0, 0, 1, 1), 3);
        Checks.permit(x, 1, 0, 0);
        IT.due("26: a text " + text, 0, Checks.text(x, 0, 0, text));
        IT.due("T4: what " + text + " says", want, x.paid(0, 0, 0, 1) - 1);
    }

    /** "Ints that wrap". */
    private static void intsThatWrap() {
        says(GREATEST + "/2", 1073741823);
        says(LEAST + "/-2", 1073741824);
        says(GREATEST + "+1=" + LEAST, 1);
        says(GREATEST + "+1<0", 1);
        says(LEAST + "-1=" + GREATEST, 1);
        says("-" + LEAST + "=" + LEAST, 1);
        says("-" + GREATEST + "-1=" + LEAST, 1);
        says(LEAST + "/-1=" + LEAST, 1);
        says(LEAST + "%-1+5", 5);
        says("65536*65536+7", 7);
        says("65536*65535+65536=0", 1);
        says("65536*32768<0", 1);
        says("999999*999999+729379*1000+967", 0);
        says(GREATEST + "*2+9", 7);
        says(GREATEST + "+" + GREATEST + "+9", 7);
        says(LEAST + "*2+9", 9);
        says(LEAST + "<" + GREATEST, 1);
        says(LEAST + "-" + GREATEST, 1);
    }

    /** "/ and % toward 0". */
    private static void towardNought() {
        says("7/2", 3);
        says("-7/2+10", 7);
        says("7/-2+10", 7);
        says("-7/-2", 3);
        says("1/2", 0);
        says("-1/2+9", 9);
        says("999999/999999", 1);
        says("999998/999999", 0);
        says("7%3", 1);
        says("-7%3+10", 9);
        says("7%-3", 1);
        says("-7%-3+10", 9);
        says("6%3", 0);
        says("2%3", 2);
        says("-2%3+10", 8);
        says("7%1", 0);
    }

    /** "by 0 they give 0". */
    private static void byNoughtTheyGiveNought() {
        for (String sign : new String[] {"/", "%"}) {
            says("7" + sign + "0+5", 5);
            says("-7" + sign + "0+5", 5);
            says("0" + sign + "0+5", 5);
            says("7" + sign + "(3-3)+5", 5);
            says("7" + sign + "m+5", 5);
            says(LEAST + sign + "0+5", 5);
            says("0" + sign + "7+5", 5);
            says("7" + sign + "0*9+5", 5);
            says("7" + sign + "0" + sign + "0+5", 5);
        }
    }

    /** "| & < = > ! give 1, 0". */
    private static void truths() {
        int[] values = {-2, -1, 0, 1, 2};
        for (int a : values) {
            for (int b : values) {
                String left = "(" + a + ")", right = "(" + b + ")";
                says(left + "|" + right, a != 0 || b != 0 ? 1 : 0);
                says(left + "&" + right, a != 0 && b != 0 ? 1 : 0);
                says(left + "<" + right, a < b ? 1 : 0);
                says(left + "=" + right, a == b ? 1 : 0);
                says(left + ">" + right, a > b ? 1 : 0);
            }
            says("!(" + a + ")", a == 0 ? 1 : 0);
            says("(" + a + ")+5", a + 5);
        }
        says("2|0|0", 1);
        says("0|0|2", 1);
        says("0|0|0", 0);
        says("2&3&4", 1);
        says("2&3&0", 0);
        says("0&3&4", 0);
        says("0&(7/0)", 0);
        says("1|(7/0)", 1);
    }

    private static void notMinusAndBrackets() {
        says("!!7", 1);
        says("!!0", 0);
        says("--7", 7);
        says("-!0+5", 4);
        says("!-7", 0);
        says("!-0", 1);
        says("!0+5", 6);
        says("!7+5", 5);
        says("!0*5", 5);
        says("-2*-3", 6);
        says("4--3", 7);
        says("4+-3", 1);
        says("----7", 7);
        says("!(1=2)", 1);
        says("!1=0", 1);
        says("-(2-9)", 7);
        says("((((((((7))))))))", 7);
        says("--------7", 7);
        says("!!!!!!!!7", 1);
        says("!!!!!!!7", 0);
        says("(0|7)+1", 2);
        says("7", 7);
        says("000007", 7);
        says("999999", 999999);
    }

    private static void fromTheLeft() {
        says("10-3-2", 5);
        says("10-3+2", 9);
        says("100/10/5", 2);
        says("100/10*5", 50);
        says("100*10/5", 200);
        says("17%10%4", 3);
        says("2*17%10", 4);
        says("17%10*2", 14);
        says("7/2*2", 6);
        says("1-2+3-4+5-6+7", 4);
        says("2*3*4*5/6/7", 2);
    }

    /** "E = A { | A }. A = B { & B }. B = S, or S < S .. S = P { + P, - P }. P = O { * O, / O, % O }". */
    private static void weakerAndStronger() {
        says("1+2*3", 7);
        says("2*3+1", 7);
        says("(1+2)*3", 9);
        says("9-6/3", 7);
        says("9-7%4", 6);
        says("1+1=2", 1);
        says("3>1+1", 1);
        says("1+2<3", 0);
        says("0&0=0", 0);
        says("(0&0)=0", 1);
        says("0|0<1", 1);
        says("1|1&0", 1);
        says("(1|1)&0", 0);
        says("0&1|1", 1);
        says("0&(1|1)", 0);
        says("0=1|1", 1);
        says("2=2&3=3", 1);
        says("2=2&3=4", 0);
        says("2=3|3=3", 1);
        says("1<2&2<3&3<4", 1);
    }

    /** "The first LINE without a first E, or whose first E is not 0, counts". */
    private static void theFirstLineThatCounts() {
        says("5;9", 5);
        says("0;9", 0);
        says("1?5;9", 5);
        says("2?5;9", 5);
        says("-1?5;9", 5);
        says(LEAST + "?5;9", 5);
        says("0?5;9", 9);
        says("1?0;9", 0);
        says("0?5;0?6;7", 7);
        says("0?5;1?6;7", 6);
        says("0?5;0;7", 0);
        says("0&1?5;0|1?6;7", 6);
        says("1-1?5;9", 9);
        says("65536*65536?5;9", 9);
    }

    /** "none: 0". */
    private static void noLineThatCounts() {
        says("0?5", 0);
        says("0?5;0?6", 0);
        says("m?5", 0);
    }

    private static void line(String text, int want) {
        AcresPaid x = new AcresPaid();
        x.farm(1, 0);
        Checks.text(x, 3, 0, text);
        IT.due("29: the line of " + text, want, x.paid(0, 0, 0, 6));
    }

    /** "none: 0 (LINE -1)". */
    private static void linesFromNought() {
        line("5", 0);
        line("1?5", 0);
        line("0?5", -1);
        line("0?5;0?5", -1);
        line("0?5;5", 1);
        line("0?5;1?5;5", 1);
        line("0?5;0?5;1?5", 2);
        line("0?1;".repeat(39) + "1", 39);
        line("0?1;".repeat(39) + "0?1", -1);
        line("1;".repeat(79) + "1", 0);
    }

    private static void namedArguments() {
        AcresPaid x = new AcresPaid();
        x.farm(3, 2);
        x.body();
        int[] want = {0, 3, 0, 0, 0, 0, 0, 0, 0, 0, 0, 0, 0};
        for (int name = -1; name <= 13; name++) {
            IT.due("28: name " + name, name < 0 || name > 12 ? BAD : want[name], x.named(0, 0, 0, name));
        }
        IT.due("28: name MIN", BAD, x.named(0, 0, 0, MIN));
        IT.due("28: name MAX", BAD, x.named(0, 0, 0, MAX));
        for (int farm : new int[] {MIN, -1, 1, 2, 150, MAX}) {
            IT.due("28: farm " + farm, BAD, x.named(farm, 0, 0, 1));
        }
        for (int year : new int[] {MIN, -1, 0, 9, 10, MAX}) {
            IT.due("28: year " + year, year == 0 || year == 9 ? 3 : BAD, x.named(0, year, 0, 1));
        }
        for (int k : new int[] {MIN, -1, 0, 3649, 3650, MAX}) {
            IT.due("28: k " + k, k == 0 || k == 3649 ? 3 : BAD, x.named(0, 0, k, 1));
        }
    }

    private static void name(AcresPaid x, int year, int k, int name, int want) {
        IT.due("28: name " + name + " of year " + year + " as known on " + k, want, x.named(0, year, k, name));
    }

    /** "y YEAR, k KIND of the FARM". */
    private static void yearAndKind() {
        for (int kind : new int[] {1, 2, 3, 7}) {
            AcresPaid x = new AcresPaid();
            x.farm(kind, 1);
            for (int year = 0; year < 10; year++) {
                name(x, year, 0, 0, year);
                name(x, year, 0, 1, kind);
            }
            Checks.text(x, 13, 0, "k=" + kind + "?0;0");
            IT.due("28: k in a text", 0, x.paid(0, 0, 0, 6));
            Checks.text(x, 13, 0, "y=9?0;0");
            IT.due("28: y in a text", 0, x.paid(0, 9, 0, 6));
            IT.due("28: y in a text, of year 8", 1, x.paid(0, 8, 0, 6));
        }
    }

    /** "s squares COUNTED of all its CLAIMS, f FOUND of all". */
    private static void countedAndFound() {
        AcresPaid x = new AcresPaid();
        x.farm(1, 0);
        x.farm(1, 0);
        int all = Checks.field(x, 0, 0, 0, 24, 12);
        int rest = Checks.meadow(x, 0, 0, 12, 24, 24);
        name(x, 0, 0, 2, 0);
        x.claim(0, all, 0);
        name(x, 0, 0, 2, 288);
        x.claim(0, rest, 0);
        name(x, 0, 0, 2, 576);
        name(x, 0, 0, 3, 576);
        x.control(0, all, 0, 576);
        name(x, 0, 0, 2, 576);
        name(x, 0, 0, 3, 288);
        x.control(0, rest, 0, 287);
        name(x, 0, 0, 3, 1);
        x.control(0, rest, 0, 288);
        name(x, 0, 0, 3, 0);
        IT.due("28: another farm's", 0, x.named(1, 0, 0, 2));
    }

    /** "g hundredths of s in MEADOWS (0 if s is 0)". */
    private static void hundredthsInMeadows() {
        AcresPaid x = new AcresPaid();
        x.farm(1, 0);
        int meadow = Checks.meadow(x, 0, 0, 0, 2, 1);
        int field = Checks.field(x, 0, 0, 1, 1, 2);
        int large = Checks.field(x, 0, 0, 2, 24, 14);
        name(x, 0, 0, 4, 0);
        x.claim(0, field, 0);
        name(x, 0, 0, 4, 0);
        x.claim(0, meadow, 0);
        // 2 of 3
        name(x, 0, 0, 4, 66);
        x.giveUp(field);
        name(x, 0, 0, 4, 100);
        x.claim(0, large, 0);
        // 2 of 290
        name(x, 0, 0, 4, 0);
        x.days(365);
        x.claim(0, meadow, 0);
        x.out(0, 100, 365);
        name(x, 1, 365, 2, 0);
        name(x, 1, 365, 4, 0);
    }

    /** "c how many CROPS with COUNTED squares". */
    private static void cropsGrown() {
        AcresPaid x = new AcresPaid();
        x.farm(1, 0);
        int[] fields = new int[9];
        for (int i = 0; i < 8; i++) {
            fields[i] = Checks.field(x, 0, i, 0, i + 1, 1);
        }
        fields[8] = Checks.meadow(x, 0, 8, 0, 9, 1);
        name(x, 0, 0, 5, 0);
        for (int i = 0; i < 8; i++) {
            x.claim(0, fields[i], 7 - i);
            name(x, 0, 0, 5, i + 1);
        }
        x.claim(0, fields[8], 0);
        name(x, 0, 0, 5, 8);
        x.claim(0, fields[0], 0);
        name(x, 0, 0, 5, 7);
        x.control(0, fields[1], 0, 1);
        // counted, though it was not found
        name(x, 0, 0, 5, 7);
        x.out(100, 100, 0);
        name(x, 0, 0, 5, 6);
    }

    /** "t hundredths of s of the CROP with most squares". */
    private static void hundredthsOfTheCropWithMost() {
        AcresPaid x = new AcresPaid();
        x.farm(1, 0);
        int a = Checks.field(x, 0, 0, 0, 1, 1);
        int b = Checks.field(x, 0, 1, 0, 2, 1);
        int c = Checks.field(x, 0, 2, 0, 3, 1);
        int grass = Checks.meadow(x, 0, 3, 0, 6, 1);
        name(x, 0, 0, 6, 0);
        x.claim(0, a, 7);
        name(x, 0, 0, 6, 100);
        x.claim(0, b, 0);
        name(x, 0, 0, 6, 50);
        x.claim(0, c, 1);
        name(x, 0, 0, 6, 33);
        x.claim(0, c, 7);
        name(x, 0, 0, 6, 66);
        x.claim(0, grass, 0);
        // crop 0 with the meadow: 4 of 6
        name(x, 0, 0, 6, 66);
        x.control(0, grass, 0, 3);
        name(x, 0, 0, 6, 66);
        x.out(0, 500, 0);
        name(x, 0, 0, 6, 0);
    }

    /** "l LATE in days of its CLAIM of that YEAR that was made last (0 without)". */
    private static void lateOfTheClaimMadeLast() {
        AcresPaid x = new AcresPaid();
        x.farm(1, 0);
        int a = Checks.field(x, 0, 0, 0, 1, 1);
        int b = Checks.field(x, 0, 1, 0, 2, 1);
        name(x, 0, 0, 7, 0);
        x.days(135);
        x.claim(0, b, 0);
        name(x, 0, 135, 7, 0);
        x.days(1);
        x.claim(0, a, 0);
        name(x, 0, 136, 7, 1);
        name(x, 0, 135, 7, 0);
        x.days(228);
        x.claim(0, b, 0);
        name(x, 0, 364, 7, 229);
        name(x, 0, 363, 7, 1);
        x.close(0, 0);
        name(x, 0, 364, 7, 364);
        x.days(1);
        x.claim(0, a, 0);
        name(x, 1, 365, 7, 0);
        name(x, 0, 365, 7, 364);
        name(x, 2, 365, 7, 0);
    }

    private static void lateOfWhatCounts() {
        AcresPaid x = new AcresPaid();
        x.farm(1, 0);
        x.close(0, 0);
        int a = Checks.field(x, 0, 0, 0, 1, 1);
        int b = Checks.field(x, 0, 1, 0, 2, 1);
        x.days(10);
        x.claim(0, a, 0);
        x.days(10);
        x.claim(0, b, 0);
        x.days(10);
        x.giveUp(b);
        name(x, 0, 29, 7, 20);
        name(x, 0, 30, 7, 10);
        x.giveUp(a);
        name(x, 0, 30, 7, 0);
    }

    private static void errors(int squares, int missing, int want) {
        AcresPaid x = new AcresPaid();
        x.farm(1, 0);
        int rows = squares / 24, rest = squares % 24;
        int[] fields = new int[2];
        if (rows > 0) {
            fields[0] = Checks.field(x, 0, 0, 0, 24, rows);
            x.claim(0, fields[0], 0);
            x.control(0, fields[0], 0, Math.min(missing, 24 * rows));
        }
        if (rest > 0) {
            fields[1] = Checks.field(x, 0, 0, rows, rest, rows + 1);
            x.claim(0, fields[1], 0);
            x.control(0, fields[1], 0, Math.max(0, missing - 24 * rows));
        }
        name(x, 0, 0, 2, squares);
        name(x, 0, 0, 3, squares - missing);
        name(x, 0, 0, 8, want);
    }

    /** "e errors: hundredths (s - f) of f (cut ..)". */
    private static void errorsCut() {
        errors(100, 0, 0);
        errors(100, 1, 1);
        errors(101, 1, 1);
        errors(102, 1, 0);
        errors(103, 3, 3);
        errors(104, 3, 2);
        errors(12, 1, 9);
        errors(12, 6, 100);
        errors(576, 1, 0);
        errors(576, 5, 0);
        errors(576, 6, 1);
        errors(3, 2, 200);
    }

    /** "999 at most". */
    private static void errorsHeldAt999() {
        errors(571, 519, 998);
        errors(10, 9, 900);
        errors(11, 10, 999);
        errors(12, 11, 999);
        errors(576, 575, 999);
        errors(575, 523, 999);
        errors(109, 99, 990);
        errors(110, 100, 999);
    }

    /** "999 if f is 0 and s is not". */
    private static void errorsOfNothing() {
        errors(1, 1, 999);
        errors(576, 576, 999);
        errors(0, 0, 0);
        AcresPaid x = new AcresPaid();
        x.farm(1, 0);
        int field = Checks.field(x, 0, 0, 0, 1, 1);
        x.claim(0, field, 0);
        x.control(0, field, 0, 1);
        name(x, 0, 0, 8, 999);
        x.out(0, 0, 0);
        // now neither is anything counted
        name(x, 0, 0, 8, 0);
    }

    /** "p PERMITS that it HOLDS on the last DAY of the YEAR". */
    private static void permitsOnTheLastDay() {
        int[][] want = {{0, 0}, {364, 0}, {365, 1}, {729, 1}, {730, 2}, {3284, 8}, {3285, 9}, {3649, 9}};
        for (int[] w : want) {
            AcresPaid x = new AcresPaid();
            x.farm(1, 0);
            x.farm(1, 0);
            Checks.permit(x, 5, 0, w[0]);
            for (int year = 0; year < 10; year++) {
                name(x, year, 0, 9, year >= w[1] ? 1 : 0);
            }
            IT.due("28: not another farm's", 0, x.named(1, 9, 0, 9));
            x.days(1);
            x.handOver(2, 1, 3649);
            name(x, 9, 0, 9, 1);
            name(x, 9, 1, 9, 0);
            name(x, 8, 1, 9, w[1] <= 8 ? 1 : 0);
        }
        AcresPaid many = new AcresPaid();
        many.farm(1, 0);
        for (int i = 1; i <= 100; i++) {
            Checks.permit(many, i, 0, 0);
        }
        many.permit(7);
        name(many, 0, 0, 9, 100);
    }

    /** "m the sum so far (of STEP; else 0)". */
    private static void theSumSoFar() {
        AcresPaid x = new AcresPaid();
        x.farm(1, 0);
        x.claim(0, Checks.field(x, 0, 0, 0, 10, 1), 0);
        Checks.permit(x, 9, 0, 0);
        Checks.text(x, 0, 0, "m+1");
        Checks.text(x, 1, 0, "m=0");
        Checks.text(x, 2, 0, "m-30");
        Checks.text(x, 3, 0, "m+10");
        int[] want = {90, 100, 130, 100, 90, 90, 0};
        for (int what = 0; what < 7; what++) {
            IT.due("28: m, paid " + what, want[what], x.paid(0, 0, 0, what));
        }
        name(x, 0, 0, 10, 0);
        Checks.text(x, 0, 0, "m?9;1");
        IT.due("28: m is 0 of RATE, behind STEP too", 100, x.paid(0, 0, 0, 1));
        Checks.text(x, 1, 0, "m");
        IT.due("28: m is 0 of GREEN", 100, x.paid(0, 0, 0, 2));
        IT.due("28: m is the sum behind GREEN", 70, x.paid(0, 0, 0, 3));
        IT.due("28: m is 0 of FINE", 63, x.paid(0, 0, 0, 4));
    }

    /** "b in how many earlier YEARS s is above f AS KNOWN on k". */
    private static void errorsInEarlierYears() {
        AcresPaid x = new AcresPaid();
        x.farm(1, 0);
        int field = Checks.field(x, 0, 0, 0, 2, 1);
        for (int year = 0; year < 10; year++) {
            x.claim(0, field, 0);
            if (year != 4) {
                x.control(0, field, year, year % 2 + 1);
            } else {
                x.control(0, field, year, 0);
            }
            x.days(year < 9 ? 365 : 364);
        }
        int[] want = {0, 1, 2, 3, 4, 4, 5, 6, 7, 8};
        for (int year = 0; year < 10; year++) {
            name(x, year, 3649, 12, want[year]);
        }
        name(x, 9, 0, 12, 1);
        name(x, 9, 364, 12, 1);
        name(x, 9, 365, 12, 2);
        name(x, 1, 0, 12, 1);
        name(x, 0, 0, 12, 0);
        x.control(0, field, 3, 0);
        name(x, 4, 3649, 12, 3);
        name(x, 4, 3648, 12, 4);
        x.giveUp(field);
        name(x, 9, 3649, 12, 0);
        name(x, 9, 3648, 12, 8);
    }
}
