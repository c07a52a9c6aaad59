/** Promises 25 to 27, and Terms 4 on the tape and texts: each sentence that names a bound, by a test of its own. */
public final class BoundsTextsTest {
    private static final int MIN = Integer.MIN_VALUE, MAX = Integer.MAX_VALUE, BAD = -1, NOT = -2, FULL = -3;
    private static final Checks IT = new Checks("bounds of texts");

    public static void main(String[] args) {
        oneToFourBytes();
        theLowestFirst();
        tapeOf160();
        landsAndUses();
        yearsOfTexts();
        theTapeIsEmptyThen();
        textsTo15();
        faultsMakeNoText();
        firstBytes();
        bytesBehindANumber();
        bytesBehindANameAndABracket();
        oneToSixDigits();
        oneComparisonEach();
        oneQuestionALine();
        linesOneOrMore();
        noBlanks();
        endsTooEarly();
        theFirstOfTwoFaults();
        eightOpenAtOnce();
        closedOnesAreNotOpen();
        inForceArguments();
        madeOnDayKOrAhead();
        forYearYOrEarlier();
        theOneMadeLast();
        ofLandAndUse();
        IT.end();
    }

    /** "n (1 .. 4) bytes". */
    private static void oneToFourBytes() {
        for (int n : new int[] {MIN, -1, 0, 1, 2, 3, 4, 5, MAX}) {
            AcresPaid x = new AcresPaid();
            x.feed(1, '1');
            boolean good = 1 <= n && n <= 4;
            IT.due("25: feed(" + n + ")", good ? n + 1 : BAD, x.feed(n, 0x31313131));
            IT.due("25: so many", good ? n + 1 : 1, x.count(9));
            IT.due("25: a text all the same", 0, x.text(0, 0));
        }
    }

    /** "the lowest of v first", and no more of v than told. */
    private static void theLowestFirst() {
        int v = '1' | '+' << 8 | '2' << 16 | '*' << 24;
        int[] want = {0, 0, -102, 0, -104};
        for (int n = 1; n <= 4; n++) {
            AcresPaid x = new AcresPaid();
            x.feed(n, v);
            IT.due("25: the first " + n + " of 1+2*", want[n], x.text(0, 0));
        }
        AcresPaid x = new AcresPaid();
        x.feed(4, '1' | ')' << 8 | '2' << 16 | '2' << 24);
        IT.due("25: the second byte is )", -101, x.text(0, 0));
        x.feed(4, '1' | '2' << 8 | ')' << 16 | '2' << 24);
        IT.due("25: the third byte is )", -102, x.text(0, 0));
        x.feed(4, '1' | '2' << 8 | '2' << 16 | ')' << 24);
        IT.due("25: the fourth byte is )", -103, x.text(0, 0));
        x.feed(4, '1' | '2' << 8 | '2' << 16 | 0xFF << 24);
        IT.due("25: the fourth byte is 255", -103, x.text(0, 0));
        IT.due("25: what lies above the byte counts nothing", 1, x.feed(1, 0xFFFFFF00 | '7'));
        IT.due("25: it is a 7", 0, x.text(0, 0));
    }

    private static AcresPaid fed(int n) {
        AcresPaid x = new AcresPaid();
        for (int i = 0; i < n; i++) {
            x.feed(1, i % 2 == 0 ? '1' : '+');
        }
        return x;
    }

    /** "THE TAPE (at most 160 bytes)"; "BAD, FULL". */
    private static void tapeOf160() {
        for (int had = 155; had <= 160; had++) {
            for (int n = 0; n <= 5; n++) {
                AcresPaid x = fed(had);
                int due = n < 1 || n > 4 ? BAD : had + n > 160 ? FULL : had + n;
                IT.due("25: " + n + " behind " + had, due, x.feed(n, '2' | '2' << 8 | '2' << 16 | '2' << 24));
                IT.due("25: so many", Math.max(had, due), x.count(9));
                if (due < 0) {
                    IT.due("25: the tape is as it was", had % 2 == 1 ? 0 : -100 - had, x.text(0, 0));
                }
            }
        }
        AcresPaid x = fed(159);
        IT.due("25: full", FULL, x.feed(2, '+' | '1' << 8));
        IT.due("25: the last byte", 160, x.feed(1, '1'));
        IT.due("25: bad ahead of full", BAD, x.feed(0, '1'));
        IT.due("26: a text of 160", 0, x.text(0, 0));
        IT.due("25: room again", 4, x.feed(4, 0));
    }

    /** "what: 10 times LAND, and USE". */
    private static void landsAndUses() {
        for (int what = -12; what <= 45; what++) {
            AcresPaid x = new AcresPaid();
            boolean good = what >= 0 && what / 10 <= 3 && what % 10 <= 3;
            IT.due("26: what " + what, good ? 0 : BAD, Checks.text(x, what, 0, "1"));
            IT.due("26: the tape", good ? 0 : 1, x.count(9));
            IT.due("27: what " + what, good ? 0 : BAD, x.inForce(what, 0, 0));
        }
        for (int what : new int[] {MIN, MAX, 100, 1000}) {
            AcresPaid x = new AcresPaid();
            IT.due("26: what " + what, BAD, Checks.text(x, what, 0, "1"));
            IT.due("27: what " + what, BAD, x.inForce(what, 0, 0));
        }
    }

    private static void yearsOfTexts() {
        for (int year : new int[] {MIN, -1, 0, 1, 9, 10, MAX}) {
            AcresPaid x = new AcresPaid();
            boolean good = 0 <= year && year <= 9;
            IT.due("26: year " + year, good ? 0 : BAD, Checks.text(x, 0, year, "1"));
            IT.due("26: texts", good ? 1 : 0, x.count(8));
            IT.due("26: the tape", good ? 0 : 1, x.count(9));
        }
    }

    /** "THE TAPE is empty then. BAD, FULL (THE TAPE stays)". */
    private static void theTapeIsEmptyThen() {
        AcresPaid x = new AcresPaid();
        Checks.tape(x, "12");
        IT.due("26: bad", BAD, x.text(4, 0));
        IT.due("26: bad", BAD, x.text(0, 10));
        IT.due("26: it stays", 2, x.count(9));
        IT.due("25: it goes on", 3, x.feed(1, '3'));
        IT.due("26: a text", 0, x.text(0, 0));
        IT.due("26: empty behind a text", 0, x.count(9));
        Checks.tape(x, "12)");
        IT.due("26: a fault", -102, x.text(0, 0));
        IT.due("26: empty behind a fault", 0, x.count(9));
        IT.due("26: nothing on it", -100, x.text(0, 0));
    }

    /** "its number (0 .. 15)"; "FULL (THE TAPE stays)". */
    private static void textsTo15() {
        AcresPaid x = new AcresPaid();
        for (int i = 0; i < 16; i++) {
            IT.due("26: its number", i, Checks.text(x, i % 4, 0, "1"));
        }
        Checks.tape(x, "1");
        IT.due("26: the 17th", FULL, x.text(0, 0));
        IT.due("26: the tape stays", 1, x.count(9));
        IT.due("26: bad ahead of full", BAD, x.text(-1, 0));
        IT.due("26: bad ahead of full", BAD, x.text(0, -1));
        IT.due("25: the tape takes more", 2, x.feed(1, ')'));
        IT.due("26: full ahead of a fault", FULL, x.text(0, 0));
        IT.due("26: the tape stays", 2, x.count(9));
        IT.due("26: sixteen", 16, x.count(8));
        for (int what = 0; what < 4; what++) {
            IT.due("27: the last of them", 12 + what, x.inForce(what, 0, 0));
        }
    }

    private static void faultsMakeNoText() {
        AcresPaid x = new AcresPaid();
        Checks.text(x, 0, 0, "1");
        for (int i = 0; i < 20; i++) {
            IT.due("26: a fault", -101, Checks.text(x, 0, 0, "1)"));
        }
        IT.due("26: one text", 1, x.count(8));
        IT.due("27: still in force", 0, x.inForce(0, 0, 0));
        IT.due("26: the next number", 1, Checks.text(x, 0, 0, "2"));
    }

    private static void fault(int at, String text) {
        IT.due("26: fault of " + text, at < 0 ? 0 : -100 - at, Checks.text(new AcresPaid(), 0, 0, text));
    }

    /** Every byte as the first: a number, a NAME, what goes ahead of an O, or a fault. */
    private static void firstBytes() {
        for (int b = 0; b < 256; b++) {
            boolean whole = b >= '0' && b <= '9' || "yksfgctlepmjb".indexOf(b) >= 0;
            boolean opens = "!-(".indexOf(b) >= 0;
            fault(whole ? -1 : opens ? 1 : 0, "" + (char) b);
            fault(whole ? -1 : opens ? 3 : 2, "1+" + (char) b);
            fault(whole ? -1 : opens ? 3 : 2, "1?" + (char) b);
            fault(whole ? -1 : opens ? 3 : 2, "1;" + (char) b);
            fault(whole ? 2 : opens ? 2 : 1, "(" + (char) b);
            fault(whole ? -1 : opens ? 2 : 1, "!" + (char) b);
            fault(whole ? -1 : opens ? 2 : 1, "-" + (char) b);
        }
    }

    /** Every byte behind a number: a digit, a sign between operands, ? or ; or a fault. */
    private static void bytesBehindANumber() {
        for (int b = 0; b < 256; b++) {
            boolean digit = b >= '0' && b <= '9';
            boolean sign = "+-*/%<=>&|?;".indexOf(b) >= 0;
            fault(digit ? -1 : sign ? 2 : 1, "1" + (char) b);
            fault(sign || digit ? -1 : 1, "1" + (char) b + "1");
            fault(digit ? -1 : sign && b != '?' ? 4 : 3, "1?1" + (char) b);
            fault(sign ? 7 : 6, "123456" + (char) b);
        }
    }

    private static void bytesBehindANameAndABracket() {
        for (int b = 0; b < 256; b++) {
            boolean sign = "+-*/%<=>&|?;".indexOf(b) >= 0;
            boolean inside = "+-*/%<=>&|".indexOf(b) >= 0;
            fault(sign ? 2 : 1, "m" + (char) b);
            fault(sign ? 4 : 3, "(m)" + (char) b);
            fault(b == ')' ? -1 : inside ? 3 : 2, "(m" + (char) b);
        }
    }

    /** "number (1 to 6 digits)". */
    private static void oneToSixDigits() {
        String digits = "9999999";
        for (int n = 1; n <= 7; n++) {
            fault(n == 7 ? 6 : -1, digits.substring(0, n));
            fault(n == 7 ? 8 : -1, "1+" + digits.substring(0, n));
            fault(n == 7 ? 7 : -1, "-" + digits.substring(0, n));
            fault(n == 7 ? 7 : -1, "(" + digits.substring(0, n) + ")");
        }
        fault(6, "0000001");
        fault(-1, "000000");
        fault(-1, "999999+999999");
    }

    /** "B = S, or S < S, S = S, S > S". */
    private static void oneComparisonEach() {
        for (char a : "<=>".toCharArray()) {
            fault(-1, "1" + a + "2");
            fault(-1, "1+2" + a + "2-1");
            for (char b : "<=>".toCharArray()) {
                fault(3, "1" + a + "2" + b + "3");
                fault(-1, "1" + a + "2&2" + b + "3");
                fault(-1, "1" + a + "2|2" + b + "3");
                fault(-1, "1" + a + "(2" + b + "3)");
                fault(-1, "1" + a + "2?2" + b + "3");
                fault(-1, "1" + a + "2;2" + b + "3");
                fault(2, "1" + a + b + "2");
                fault(5, "1" + a + "2+1" + b + "3");
            }
        }
    }

    /** "LINE: E, or E ? E": one ? each, and none in brackets. */
    private static void oneQuestionALine() {
        fault(-1, "1?2");
        fault(3, "1?2?3");
        fault(-1, "1?2;3?4");
        fault(7, "1?2;3?4?5");
        fault(2, "(1?2)");
        fault(2, "(1;2)");
        fault(-1, "(1)?(2)");
    }

    /** "LINES, one or more, parted by ;": as many as the tape holds. */
    private static void linesOneOrMore() {
        fault(0, "");
        fault(0, ";");
        fault(2, "1;");
        fault(2, "1;;1");
        fault(-1, "1");
        fault(-1, "1;1");
        fault(-1, "1;".repeat(79) + "1");
        fault(160, "1;".repeat(80));
        fault(-1, "1;".repeat(79) + "11");
        fault(159, "1;".repeat(79) + "1)");
        fault(-1, "1?1;".repeat(39) + "1?1");
        fault(160, "1?1;".repeat(40));
    }

    /** "No blanks." */
    private static void noBlanks() {
        fault(0, " 1");
        fault(1, "1 ");
        fault(1, "1 +1");
        fault(2, "1+ 1");
        fault(1, "1\t");
        fault(1, "1\n");
        fault(2, "1; 1");
    }

    /** "the length, if it ends too early". */
    private static void endsTooEarly() {
        String[] early = {"", "1+", "1-", "1*", "1/", "1%", "1<", "1=", "1>", "1&", "1|", "1?", "1;", "!", "-", "(", "(1", "((1)", "1?2;", "1+(2*", "!-(m"};
        for (String text : early) {
            fault(text.length(), text);
        }
        fault(160, "1+".repeat(80));
        fault(160, "1+".repeat(79) + "(1");
        fault(160, "111111+".repeat(22) + "11111+");
    }

    /** "the place (from 0) of the first byte with which no TEXT goes on". */
    private static void theFirstOfTwoFaults() {
        fault(1, "1))");
        fault(1, "1)*");
        fault(2, "1+)+)");
        fault(0, "xx");
        fault(3, "1;2x;x");
        fault(159, "1+".repeat(79) + "1x");
        fault(158, "1+".repeat(79) + "xx");
        fault(0, "x" + "1".repeat(159));
    }

    /** "At most 8 of ( ! - ahead of an O are open at once". */
    private static void eightOpenAtOnce() {
        for (char c : "(!-".toCharArray()) {
            String close = c == '(' ? ")" : "";
            for (int n = 1; n <= 10; n++) {
                String open = ("" + c).repeat(n);
                fault(n <= 8 ? -1 : 8, open + "1" + close.repeat(n));
                fault(n <= 8 ? -1 : 8, open + "m" + close.repeat(n));
                fault(n <= 8 ? -1 : 10, "1+" + open + "1" + close.repeat(n));
                fault(n <= 8 ? -1 : 10, "1?" + open + "1" + close.repeat(n));
                fault(n <= 8 ? -1 : 10, "1;" + open + "1" + close.repeat(n));
                fault(n <= 7 ? -1 : 8, "(" + open + "1" + close.repeat(n) + ")");
            }
            for (char d : "(!-".toCharArray()) {
                fault(8, ("" + c).repeat(8) + d);
            }
        }
        fault(8, "!-(!-(!-(1)))");
        fault(-1, "!-(!-(!-1))");
        fault(16, "!-(!-(!-1*1))*(-");
        fault(10, "((((((((1+-");
        fault(10, "((((((((1+(1");
    }

    /** An operand that is read is open no more. */
    private static void closedOnesAreNotOpen() {
        fault(-1, "--------1--------1");
        fault(-1, "--------1*--------1");
        fault(-1, "((((((((1))))))))*((((((((1))))))))");
        fault(-1, "(((((((-1+-1+(1)+!1)))))))");
        fault(-1, "!!!!!!!!1&!!!!!!!!1|!!!!!!!!1<!!!!!!!!1");
        fault(-1, "(------(1)------(1))");
        fault(-1, "(-------1-------(1))");
        fault(17, "(-------1--------(1))");
        fault(8, "(-------(1)");
        fault(-1, "(1)+(((((((-1--1)))))))");
        fault(15, "(1)+(((((((-1---1)))))))");
    }

    private static void inForceArguments() {
        AcresPaid x = new AcresPaid();
        Checks.text(x, 0, 0, "1");
        for (int year : new int[] {MIN, -1, 0, 9, 10, MAX}) {
            IT.due("27: year " + year, year == 0 || year == 9 ? 0 : BAD, x.inForce(0, year, 0));
            IT.due("27: bad ahead of not", year == 0 || year == 9 ? NOT : BAD, x.inForce(1, year, 0));
        }
        for (int k : new int[] {MIN, -1, 0, 3649, 3650, MAX}) {
            IT.due("27: k " + k, k == 0 || k == 3649 ? 0 : BAD, x.inForce(0, 0, k));
            IT.due("27: bad ahead of not", k == 0 || k == 3649 ? NOT : BAD, x.inForce(1, 0, k));
        }
    }

    /** "those made on DAY k or ahead". */
    private static void madeOnDayKOrAhead() {
        for (int day : new int[] {0, 1, 365, 3649}) {
            AcresPaid x = new AcresPaid();
            Checks.toDay(x, day);
            Checks.text(x, 0, 0, "1");
            IT.due("27: the day ahead", day == 0 ? BAD : NOT, x.inForce(0, 0, day - 1));
            IT.due("27: that day", 0, x.inForce(0, 0, day));
            IT.due("27: the day behind", day == 3649 ? BAD : 0, x.inForce(0, 0, day + 1));
        }
    }

    /** "for YEAR y or an earlier one". */
    private static void forYearYOrEarlier() {
        for (int from = 0; from < 10; from++) {
            AcresPaid x = new AcresPaid();
            Checks.text(x, 0, from, "1");
            for (int year = 0; year < 10; year++) {
                IT.due("27: from " + from + " on, in " + year, year < from ? NOT : 0, x.inForce(0, year, 0));
            }
        }
    }

    /** "the one made last": of one day too, and though it is for an earlier year. */
    private static void theOneMadeLast() {
        AcresPaid x = new AcresPaid();
        Checks.text(x, 0, 5, "1");
        Checks.text(x, 0, 2, "2");
        IT.due("27: of one day, in year 5", 1, x.inForce(0, 5, 0));
        IT.due("27: of one day, in year 2", 1, x.inForce(0, 2, 0));
        IT.due("27: none in year 1", NOT, x.inForce(0, 1, 0));
        x.days(1);
        Checks.text(x, 0, 4, "3");
        IT.due("27: the last in year 4", 2, x.inForce(0, 4, 1));
        IT.due("27: the one ahead of it in year 3", 1, x.inForce(0, 3, 1));
        IT.due("27: as known the day ahead", 1, x.inForce(0, 4, 0));
    }

    private static void ofLandAndUse() {
        for (int land = 0; land < 4; land++) {
            for (int use = 0; use < 4; use++) {
                AcresPaid x = new AcresPaid();
                Checks.text(x, 10 * land + use, 0, "1");
                for (int what = 0; what < 40; what += what % 10 == 3 ? 7 : 1) {
                    IT.due("27: made for " + land + ", " + use, what == 10 * land + use ? 0 : NOT, x.inForce(what, 9, 0));
                }
            }
        }
    }
}
